import java.math.BigInteger;

/** The boundary cases that promises 12 to 19 name, each on both sides. */
public final class BufferEdgesTest {
    private static final Trial TRIAL = new Trial();
    private static final int NONE = Trial.NONE;
    private static final int[] NOT_0_TO_2 = {-1, 3, 4, Integer.MIN_VALUE, Integer.MAX_VALUE};
    /** For 39 the classes are a ring of four: (1, 1, 10), (2, 1, 5), (3, 3, 4), (2, -1, 5). */
    private static final Trial.Deed FULL = Trial.with(39).then(clock -> {
        clock.put(0, 2, 1);
        clock.put(1, 2, -3);
        clock.put(2, 4, 3);
    });
    /** The forms of a booked round stand in the buffer. */
    private static final Trial.Deed TAKEN = Trial.booked(49999, 40, 2).then(clock -> {
        for (int which = 0; which < 3; which++) {
            Trial.take(clock, 0, which);
        }
    });

    public static void main(String[] args) {
        putInto0To2();
        putAFrom1To100000();
        putBFromMinus100000To100000();
        putNoSuchForm();
        bufferOf0To2();
        bufferPartOf0To2();
        bufferOfNone();
        bufferAnswersALong();
        reduceOf0To2();
        reduceOfNone();
        reduceIntoItsOwnPlace();
        multiplyOf0To2();
        multiplyOfNone();
        multiplyIntoItsOwnPlace();
        productsOfTheGreatestForms();
        raiseOf0To2();
        raiseWithNBelow0();
        raiseWithSmallN();
        raiseWithGreatN();
        raiseOfNone();
        testOfNoSuchRound();
        testOfNone();
        testAnswers1();
        testAnswers2();
        testAnswers3();
        testWithThePrimeOfTheBuffer();
        orderWith1To1000();
        orderOnTheEdgeOfMost();
        classesWithDUpTo50000();
        TRIAL.end();
    }

    private static void putInto0To2() {
        for (int i : NOT_0_TO_2) {
            TRIAL.refuses("put into " + i, Trial.INDEX, Trial.with(39), clock -> clock.put(i, 2, 1));
            TRIAL.refuses("put into " + i + " of a full one", Trial.INDEX, FULL, clock -> clock.put(i, 2, 1));
        }
        for (int i = 0; i < 3; i++) {
            int one = i;
            TRIAL.answers("put into " + i, Trial.with(39), clock -> {
                clock.put(one, 2, 1);
                return Trial.kept(clock, one);
            }, "2 1 5");
            TRIAL.answers("put over " + i, FULL, clock -> {
                clock.put(one, 3, 3);
                return Trial.kept(clock, one);
            }, "3 3 4");
        }
        TRIAL.answers("put leaves the other two", FULL, clock -> {
            clock.put(1, 3, 3);
            return Trial.kept(clock, 0) + ", " + Trial.kept(clock, 2);
        }, "2 1 5, 4 3 3");
    }

    private static void putAFrom1To100000() {
        int[] below = {0, -1, -2, Integer.MIN_VALUE};
        for (int a : below) {
            refusePut("a is " + a, 39, a, 1);
        }
        // (100001, 1, 2) would be a form.
        refusePut("a is 100001", 800007, 100001, 1);
        refusePut("a is greatest", 39, Integer.MAX_VALUE, 1);
        putAnswers("a is 1", 39, 1, 1, "1 1 10");
        putAnswers("a is 2", 39, 2, 1, "2 1 5");
        putAnswers("a is 99999", 799991, 99999, 1, "99999 1 2");
        putAnswers("a is 100000", 399999, 100000, 1, "100000 1 1");
        putAnswers("a is 100000, b is greatest", 199999, 100000, 99999, "100000 99999 25000");
        putAnswers("a is 100000, b is least", 199999, 100000, -99999, "100000 -99999 25000");
    }

    /** With a = 1 there is a form for each odd b; -100000 and 100000 are even, so the last ones are 1 nearer to 0. */
    private static void putBFromMinus100000To100000() {
        int[] outside = {-100001, -100003, 100001, 100003, Integer.MIN_VALUE, Integer.MIN_VALUE + 1, Integer.MAX_VALUE};
        for (int b : outside) {
            refusePut("b is " + b, 39, 1, b);
        }
        refusePut("b is -100000, which is even", 39, 1, -100000);
        refusePut("b is 100000, which is even", 39, 1, 100000);
        putAnswers("b is -99999", 39, 1, -99999, "1 -99999 2499950010");
        putAnswers("b is 99999", 39, 1, 99999, "1 99999 2499950010");
        putAnswers("b is -1", 39, 1, -1, "1 -1 10");
        putAnswers("b * b is above an int", 39, 1, 46341, "1 46341 536872080");
    }

    private static void putNoSuchForm() {
        refusePut("b is 0", 39, 2, 0);
        refusePut("b is even", 39, 2, 2);
        refusePut("a does not divide", 39, 7, 1);
        refusePut("a divides, 4 * a does not", 23, 4, 1);
        refusePut("all by 3", 63, 3, 3);
        putAnswers("a divides", 39, 5, 1, "5 1 2");
        putAnswers("4 * a divides", 23, 4, 3, "4 3 2");
        putAnswers("2 by 3", 63, 9, 3, "9 3 2");
    }

    private static void refusePut(String sentence, int d, int a, int b) {
        Trial.Deed one = Trial.with(d).then(clock -> clock.put(1, 1, 3));
        TRIAL.refuses(sentence, Trial.ARGUMENT, one, clock -> clock.put(0, a, b));
        TRIAL.refuses(sentence + ", over another", Trial.ARGUMENT, one, clock -> clock.put(1, a, b));
    }

    private static void putAnswers(String sentence, int d, int a, int b, String due) {
        TRIAL.answers(sentence, Trial.with(d), clock -> {
            clock.put(2, a, b);
            return Trial.kept(clock, 2);
        }, due);
    }

    private static void bufferOf0To2() {
        for (int i : NOT_0_TO_2) {
            TRIAL.refuses("buffer " + i, Trial.INDEX, FULL, clock -> clock.buffer(i, 0));
        }
        TRIAL.answers("buffer 0", FULL, clock -> clock.buffer(0, 2), 5);
        TRIAL.answers("buffer 1", FULL, clock -> clock.buffer(1, 1), -3);
        TRIAL.answers("buffer 2", FULL, clock -> clock.buffer(2, 0), 4);
    }

    private static void bufferPartOf0To2() {
        for (int part : NOT_0_TO_2) {
            TRIAL.refuses("part " + part, Trial.INDEX, FULL, clock -> clock.buffer(2, part));
        }
        TRIAL.answers("parts 0 to 2", FULL, clock -> Trial.kept(clock, 1), "2 -3 6");
    }

    private static void bufferOfNone() {
        for (int i = 0; i < 3; i++) {
            int one = i;
            TRIAL.refuses("buffer " + i + " is none", Trial.ELEMENT, Trial.with(39), clock -> clock.buffer(one, 2));
            Trial.Deed others = Trial.with(39).then(clock -> {
                clock.put((one + 1) % 3, 2, 1);
                clock.put((one + 2) % 3, 2, 1);
            });
            TRIAL.refuses("buffer " + i + " alone is none", Trial.ELEMENT, others, clock -> clock.buffer(one, 0));
        }
    }

    /** For 999999999 the last c that is an int is that with b = 87119. */
    private static void bufferAnswersALong() {
        putAnswers("c is an int", 999999999, 1, 87119, "1 87119 2147430040");
        putAnswers("c is above an int", 999999999, 1, 87121, "1 87121 2147517160");
        putAnswers("c is greatest", 999999999, 1, 99999, "1 99999 2749950000");
    }

    private static void reduceOf0To2() {
        for (int i : NOT_0_TO_2) {
            TRIAL.refuses("reduce of " + i, Trial.INDEX, FULL, clock -> clock.reduce(i, 0));
            TRIAL.refuses("reduce into " + i, Trial.INDEX, FULL, clock -> clock.reduce(1, i));
            TRIAL.refuses("reduce of and into " + i, Trial.INDEX, FULL, clock -> clock.reduce(i, i));
        }
        String[] due = {"2 1 5", "2 1 5", "3 3 4"};
        for (int place = 0; place < 9; place++) {
            int i = place / 3;
            int k = place % 3;
            TRIAL.answers("reduce of " + i + " into " + k, FULL, clock -> {
                clock.reduce(i, k);
                return Trial.kept(clock, k);
            }, due[i]);
        }
    }

    private static void reduceOfNone() {
        for (int i = 0; i < 3; i++) {
            int one = i;
            TRIAL.refuses("reduce of none", Trial.ELEMENT, Trial.with(39), clock -> clock.reduce(one, one));
            TRIAL.refuses("reduce of none over a form", Trial.ELEMENT,
                Trial.with(39).then(clock -> clock.put((one + 1) % 3, 2, 5)), clock -> clock.reduce(one, (one + 1) % 3));
            TRIAL.answers("reduce into none", Trial.with(39).then(clock -> clock.put(one, 2, 5)), clock -> {
                clock.reduce(one, (one + 1) % 3);
                return Trial.kept(clock, (one + 1) % 3);
            }, "2 1 5");
        }
    }

    private static void reduceIntoItsOwnPlace() {
        TRIAL.answers("into its own place", FULL, clock -> {
            clock.reduce(1, 1);
            return Trial.kept(clock, 0) + ", " + Trial.kept(clock, 1) + ", " + Trial.kept(clock, 2);
        }, "2 1 5, 2 1 5, 4 3 3");
        TRIAL.answers("into another place", FULL, clock -> {
            clock.reduce(1, 2);
            return Trial.kept(clock, 0) + ", " + Trial.kept(clock, 1) + ", " + Trial.kept(clock, 2);
        }, "2 1 5, 2 -3 6, 2 1 5");
    }

    private static void multiplyOf0To2() {
        for (int i : NOT_0_TO_2) {
            TRIAL.refuses("multiply of " + i, Trial.INDEX, FULL, clock -> clock.multiply(i, 0, 0));
            TRIAL.refuses("multiply by " + i, Trial.INDEX, FULL, clock -> clock.multiply(0, i, 0));
            TRIAL.refuses("multiply into " + i, Trial.INDEX, FULL, clock -> clock.multiply(0, 0, i));
        }
        String[] ring = {"1 1 10", "2 1 5", "3 3 4", "2 -1 5"};
        int[] exponents = {1, 1, 2};
        for (int place = 0; place < 27; place++) {
            int i = place / 9;
            int j = place / 3 % 3;
            int k = place % 3;
            TRIAL.answers("multiply of " + i + " by " + j + " into " + k, FULL, clock -> {
                clock.multiply(i, j, k);
                return Trial.kept(clock, k);
            }, ring[(exponents[i] + exponents[j]) % 4]);
        }
    }

    private static void multiplyOfNone() {
        for (int i = 0; i < 3; i++) {
            int none = i;
            int one = (i + 1) % 3;
            Trial.Deed others = Trial.with(39).then(clock -> {
                clock.put(one, 2, 5);
                clock.put((one + 1) % 3, 2, 5);
            });
            TRIAL.refuses("the first is none", Trial.ELEMENT, others, clock -> clock.multiply(none, one, one));
            TRIAL.refuses("the second is none", Trial.ELEMENT, others, clock -> clock.multiply(one, none, one));
            TRIAL.refuses("both are none", Trial.ELEMENT, others, clock -> clock.multiply(none, none, one));
            TRIAL.answers("the third is none", others, clock -> {
                clock.multiply(one, one, none);
                return Trial.kept(clock, none);
            }, "3 3 4");
        }
    }

    private static void multiplyIntoItsOwnPlace() {
        TRIAL.answers("square in its own place", FULL, clock -> {
            clock.multiply(1, 1, 1);
            return Trial.kept(clock, 0) + ", " + Trial.kept(clock, 1) + ", " + Trial.kept(clock, 2);
        }, "2 1 5, 3 3 4, 4 3 3");
        TRIAL.answers("into a third place", FULL, clock -> {
            clock.multiply(0, 1, 2);
            return Trial.kept(clock, 0) + ", " + Trial.kept(clock, 1) + ", " + Trial.kept(clock, 2);
        }, "2 1 5, 2 -3 6, 3 3 4");
    }

    /** The greatest numbers that put takes, for the greatest d: alike forms have the same product and power. */
    private static void productsOfTheGreatestForms() {
        int[][] forms = {{99999, 99699}, {99999, 93795}, {99999, -99699}, {100000, 18751}, {100000, -18751}, {1, 99999},
            {1, -99999}, {2, 99999}, {18063, -17613}};
        for (int[] one : forms) {
            for (int[] other : forms) {
                Trial.Deed recipe = Trial.with(999999999).then(clock -> {
                    clock.put(0, one[0], one[1]);
                    clock.put(1, other[0], other[1]);
                });
                Trial.Deed reduced = recipe.then(clock -> {
                    clock.reduce(0, 0);
                    clock.reduce(1, 1);
                });
                String words = one[0] + " " + one[1] + " by " + other[0] + " " + other[1];
                TRIAL.expect(words, productAndPower(recipe), productAndPower(reduced));
            }
        }
    }

    private static String productAndPower(Trial.Deed recipe) {
        SquaringClock clock = Trial.made(recipe);
        clock.multiply(0, 1, 2);
        String product = Trial.kept(clock, 2);
        clock.raise(0, 3, 2);
        return product + ", " + Trial.kept(clock, 2);
    }

    private static void raiseOf0To2() {
        for (int i : NOT_0_TO_2) {
            TRIAL.refuses("raise of " + i, Trial.INDEX, FULL, clock -> clock.raise(i, 2, 0));
            TRIAL.refuses("raise into " + i, Trial.INDEX, FULL, clock -> clock.raise(0, 2, i));
            TRIAL.refuses("raise of and into " + i, Trial.INDEX, FULL, clock -> clock.raise(i, 0, i));
        }
        String[] due = {"2 -1 5", "2 -1 5", "3 3 4"};
        for (int place = 0; place < 9; place++) {
            int i = place / 3;
            int k = place % 3;
            TRIAL.answers("raise of " + i + " into " + k, FULL, clock -> {
                clock.raise(i, 3, k);
                return Trial.kept(clock, k);
            }, due[i]);
        }
        TRIAL.answers("raise leaves the form itself", FULL, clock -> {
            clock.raise(1, 3, 2);
            return Trial.kept(clock, 0) + ", " + Trial.kept(clock, 1);
        }, "2 1 5, 2 -3 6");
    }

    private static void raiseWithNBelow0() {
        int[] below = {-1, -2, Integer.MIN_VALUE};
        for (int n : below) {
            TRIAL.refuses("raise with " + n, Trial.ARGUMENT, FULL, clock -> clock.raise(0, n, 1));
            TRIAL.refuses("raise in its own place with " + n, Trial.ARGUMENT, FULL, clock -> clock.raise(1, n, 1));
        }
    }

    private static void raiseWithSmallN() {
        String[] ring = {"1 1 10", "2 1 5", "3 3 4", "2 -1 5"};
        for (int n = 0; n < 9; n++) {
            int exponent = n;
            TRIAL.answers("raise with " + n, FULL, clock -> {
                clock.raise(1, exponent, 1);
                return Trial.kept(clock, 1);
            }, ring[n % 4]);
        }
    }

    /** The generator's order is 183 for 49999, so the exponent counts by its rest alone. */
    private static void raiseWithGreatN() {
        int[] great = {65535, 65536, 1 << 30, Integer.MAX_VALUE - 1, Integer.MAX_VALUE};
        for (int n : great) {
            TRIAL.answers("raise with " + n, Trial.with(49999), clock -> {
                clock.put(0, 2, 1);
                clock.raise(0, n, 1);
                clock.raise(0, n % 183, 2);
                return Trial.kept(clock, 1).equals(Trial.kept(clock, 2));
            }, true);
        }
        TRIAL.answers("raise with the greatest n is one power above the next", Trial.with(999999999), clock -> {
            clock.put(0, 2, 1);
            clock.raise(0, Integer.MAX_VALUE - 1, 1);
            clock.multiply(0, 1, 1);
            clock.raise(0, Integer.MAX_VALUE, 2);
            return Trial.kept(clock, 1).equals(Trial.kept(clock, 2));
        }, true);
    }

    private static void raiseOfNone() {
        int[] all = {0, 1, Integer.MAX_VALUE};
        for (int n : all) {
            TRIAL.refuses("none with " + n, Trial.ELEMENT, Trial.with(39), clock -> clock.raise(0, n, 0));
            TRIAL.refuses("none with " + n + " over a form", Trial.ELEMENT,
                Trial.with(39).then(clock -> clock.put(1, 2, 5)), clock -> clock.raise(2, n, 1));
        }
        TRIAL.answers("raise into none", Trial.with(39).then(clock -> clock.put(0, 2, 5)), clock -> {
            clock.raise(0, 1, 2);
            return Trial.kept(clock, 2);
        }, "2 1 5");
    }

    private static void testOfNoSuchRound() {
        int[] wrong = {NONE, -2, 2, 16, Integer.MIN_VALUE, Integer.MAX_VALUE};
        for (int round : wrong) {
            TRIAL.refuses("test of round " + round, Trial.INDEX, TAKEN, clock -> clock.test(round));
            TRIAL.refuses("test of round " + round + " while one is running", Trial.INDEX,
                TAKEN.then(clock -> clock.begin(3)), clock -> clock.test(round));
        }
        TRIAL.refuses("test in an empty book", Trial.INDEX, FULL, clock -> clock.test(0));
        TRIAL.answers("test of the first one", TAKEN, clock -> clock.test(0), 0);
        TRIAL.answers("test of the last one", TAKEN, clock -> {
            for (int which = 0; which < 3; which++) {
                Trial.take(clock, 1, which);
            }
            return clock.test(1);
        }, 0);
        TRIAL.answers("test while one is running", TAKEN.then(clock -> clock.begin(3)), clock -> clock.test(0), 0);
    }

    private static void testOfNone() {
        for (int mask = 0; mask < 7; mask++) {
            int taken = mask;
            Trial.Deed some = Trial.booked(49999, 9, 1).then(clock -> {
                for (int which = 0; which < 3; which++) {
                    if ((taken >> which & 1) == 1) {
                        Trial.take(clock, 0, which);
                    }
                }
            });
            TRIAL.refuses("test with only some forms: " + mask, Trial.ELEMENT, some, clock -> clock.test(0));
        }
        Trial.Deed other = Trial.booked(49999, 9, 1).then(clock -> clock.put(0, 1, 3));
        TRIAL.refuses("none comes before another x", Trial.ELEMENT, other, clock -> clock.test(0));
    }

    private static void testAnswers1() {
        changed("x of another round", 1, clock -> clock.put(0, clock.form(1, 0, 0), clock.form(1, 0, 1)));
        changed("alike to x, b above", 1, clock -> clock.put(0, clock.form(0, 0, 0), moved(clock, 0, 1)));
        changed("alike to x, b below", 1, clock -> clock.put(0, clock.form(0, 0, 0), moved(clock, 0, -1)));
        changed("-b instead of b", 1, clock -> clock.put(0, clock.form(0, 0, 0), -clock.form(0, 0, 1)));
        changed("another x and another y", 1, clock -> {
            clock.put(0, 1, 1);
            clock.put(1, 1, 1);
        });
        changed("another x and a y that is not reduced", 1, clock -> {
            clock.put(0, 1, 1);
            clock.put(1, 1, 3);
        });
        changed("another x and a proof that is not reduced", 1, clock -> {
            clock.put(0, 1, 1);
            clock.put(2, 1, 3);
        });
        changed("another x for which all would hold", 1, clock -> {
            for (int i = 0; i < 3; i++) {
                clock.put(i, 1, 1);
            }
        });
        changed("x again", 0, clock -> {
            clock.put(0, 1, 1);
            Trial.take(clock, 0, 0);
        });
        TRIAL.answers("the forms of one round against the other", TAKEN, clock -> clock.test(1), 1);
    }

    private static void testAnswers2() {
        changed("y is alike, b above", 2, clock -> clock.put(1, clock.form(0, 1, 0), moved(clock, 1, 1)));
        changed("y is alike, b below", 2, clock -> clock.put(1, clock.form(0, 1, 0), moved(clock, 1, -1)));
        changed("proof is alike, b above", 2, clock -> clock.put(2, clock.form(0, 2, 0), moved(clock, 2, 1)));
        changed("proof is alike, b below", 2, clock -> clock.put(2, clock.form(0, 2, 0), moved(clock, 2, -1)));
        changed("y is not reduced, the proof wrong", 2, clock -> {
            clock.put(1, 1, 3);
            clock.put(2, 1, 1);
        });
        changed("y is wrong, the proof not reduced", 2, clock -> {
            clock.put(1, 1, 1);
            clock.put(2, 1, 3);
        });
        changed("neither is reduced", 2, clock -> {
            clock.put(1, 1, 3);
            clock.put(2, 1, -1);
        });
    }

    private static void testAnswers3() {
        changed("another proof", 3, clock -> clock.put(2, 2, 1));
        changed("-b of the proof", 3, clock -> clock.put(2, clock.form(0, 2, 0), -clock.form(0, 2, 1)));
        changed("another y", 3, clock -> clock.put(1, 2, 1));
        changed("all as it was", 0, clock -> { });
    }

    private static int moved(SquaringClock clock, int which, int steps) {
        return clock.form(0, which, 1) + 2 * steps * clock.form(0, which, 0);
    }

    private static void changed(String sentence, int due, Trial.Deed change) {
        TRIAL.answers(sentence, TAKEN.then(change), clock -> clock.test(0), due);
        TRIAL.expect(sentence + ", and test changes nothing",
            Trial.story(Trial.made(TAKEN.then(change).then(clock -> clock.test(0)))),
            Trial.story(Trial.made(TAKEN.then(change))));
    }

    /** For 47 the classes are a ring of five, so whether it holds can be told from the exponents alone. */
    private static void testWithThePrimeOfTheBuffer() {
        int[][] ring = {{1, 1}, {2, 1}, {3, -1}, {3, 1}, {2, -1}};
        int[] squarings = {1, 2, 17, 499, 500};
        int othersThatHold = 0;
        for (int t : squarings) {
            SquaringClock clock = Trial.made(Trial.booked(47, t, 1));
            int[] x = {clock.form(0, 0, 0), clock.form(0, 0, 1)};
            clock.put(0, x[0], x[1]);
            for (int place = 0; place < 25; place++) {
                int y = place / 5;
                int proof = place % 5;
                clock.put(1, ring[y][0], ring[y][1]);
                clock.put(2, ring[proof][0], ring[proof][1]);
                long prime = primeOf(x, ring[y], t);
                long rest = BigInteger.TWO.modPow(BigInteger.valueOf(t), BigInteger.valueOf(prime)).longValueExact();
                boolean holds = (proof * prime + clock.told(0, 1) * rest - y) % 5 == 0;
                TRIAL.expect("T " + t + ", y " + y + ", proof " + proof, clock.test(0), holds ? 0 : 3);
                othersThatHold += holds && ring[y][1] != clock.form(0, 1, 1) ? 1 : 0;
            }
        }
        TRIAL.expect("some other y holds with its own prime", othersThatHold > 0, true);
    }

    private static long primeOf(int[] x, int[] y, int t) {
        BigInteger below = BigInteger.valueOf(2 + (Trial.mixed(2, x[0], x[1], y[0], y[1], t) & 0xFFFF));
        return below.nextProbablePrime().longValueExact();
    }

    private static void orderWith1To1000() {
        int[] wrong = {0, -1, 1001, 1002, Integer.MIN_VALUE, Integer.MAX_VALUE};
        for (int most : wrong) {
            TRIAL.refuses("order up to " + most, Trial.ARGUMENT, FULL, clock -> clock.order(most));
            TRIAL.refuses("order up to " + most + " while one is running", Trial.ARGUMENT, Trial.begun(7, 3),
                clock -> clock.order(most));
        }
        TRIAL.answers("order up to 1", Trial.with(7), clock -> clock.order(1), 1);
        TRIAL.answers("order up to 2", Trial.with(7), clock -> clock.order(2), 1);
        TRIAL.answers("order up to 1, none", Trial.with(15), clock -> clock.order(1), 0);
        TRIAL.answers("order up to 999", Trial.with(15), clock -> clock.order(999), 2);
        TRIAL.answers("order up to 1000", Trial.with(15), clock -> clock.order(1000), 2);
    }

    /** The generator's order is 1000 for 1017095, and 1001 for 1080647. */
    private static void orderOnTheEdgeOfMost() {
        TRIAL.answers("n is most", Trial.with(1017095), clock -> clock.order(1000), 1000);
        TRIAL.answers("n is one above most", Trial.with(1017095), clock -> clock.order(999), 0);
        TRIAL.answers("n is above all", Trial.with(1080647), clock -> clock.order(1000), 0);
        TRIAL.answers("its power with 1001 is the power with 0", Trial.with(1080647), clock -> {
            clock.put(0, 2, 1);
            clock.raise(0, 1001, 0);
            return Trial.kept(clock, 0);
        }, "1 1 270162");
        TRIAL.answers("n is most in a small ring", Trial.with(39), clock -> clock.order(4), 4);
        TRIAL.answers("n is one above most in a small ring", Trial.with(39), clock -> clock.order(3), 0);
        TRIAL.answers("the least n, not one of its multiples", Trial.with(39), clock -> clock.order(8), 4);
        TRIAL.answers("order while one is running", Trial.begun(39, 4), clock -> clock.order(4), 4);
    }

    private static void classesWithDUpTo50000() {
        int[] above = {50007, 50015, 999999999};
        for (int d : above) {
            TRIAL.refuses("classes for " + d, Trial.ARGUMENT, Trial.with(d), clock -> clock.classes());
            TRIAL.refuses("classes for " + d + " while one is running", Trial.ARGUMENT, Trial.begun(d, 3),
                clock -> clock.classes());
        }
        TRIAL.answers("classes for 7", Trial.with(7), SquaringClock::classes, 1);
        TRIAL.answers("classes for 49999", Trial.with(49999), SquaringClock::classes, 183);
        TRIAL.answers("classes for 49991", Trial.with(49991), SquaringClock::classes, counted(49991));
        TRIAL.answers("classes while one is running", Trial.begun(39, 4), SquaringClock::classes, 4);
        TRIAL.answers("classes again for a small one", Trial.with(50007).then(Trial.with(39)), SquaringClock::classes, 4);
    }

    /** Every a and b with -a < b <= a, by the words of the document. */
    private static int counted(int d) {
        int count = 0;
        for (int a = 1; a <= 200; a++) {
            for (int b = 1 - a; b <= a; b++) {
                int c = (b * b + d) / (4 * a);
                boolean form = 4 * a * c - b * b == d;
                boolean edge = a < c || a == c && b >= 0;
                BigInteger divisor = BigInteger.valueOf(a).gcd(BigInteger.valueOf(b)).gcd(BigInteger.valueOf(c));
                count += form && edge && divisor.equals(BigInteger.ONE) ? 1 : 0;
            }
        }
        return count;
    }
}
