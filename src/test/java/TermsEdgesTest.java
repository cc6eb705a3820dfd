/** The boundary cases that the document names under "Terms", each on both sides. */
public final class TermsEdgesTest {
    private static final Trial TRIAL = new Trial();
    /** A clock whose book, buffer and running round all hold something. */
    private static final Trial.Deed BUSY = Trial.booked(39, 4, 2).then(clock -> {
        clock.put(0, 2, 1);
        clock.begin(5);
        clock.work(3);
    });
    /** The same without a round running. */
    private static final Trial.Deed RESTING = BUSY.then(clock -> clock.drop());

    public static void main(String[] args) {
        dIsNotBelow7();
        dIsNotAbove1000000000();
        dIs7Modulo8();
        formHasNoCommonDivisor();
        reducedWhenBIsA();
        reducedWhenAIsC();
        reducedWhenAIsNotAboveC();
        reducedFormsOnTheEdgeAreCountedOnce();
        powerWith0();
        generatorIsReduced();
        mixingWraps();
        exponentIs1To65536();
        exponentOfTheFirstRound();
        primeIsNotBelowTheSum();
        proofStartsWithThePowerWith0();
        bufferIsNoneAtFirst();
        noDiscriminantBeforeAllOthers();
        noDiscriminantIsFineForThree();
        whichExceptionComesFirst();
        TRIAL.end();
    }

    private static void dIsNotBelow7() {
        int[] refused = {6, 0, -1, -9, -7, Integer.MIN_VALUE, Integer.MIN_VALUE + 7};
        refuseAll("d is not below 7", refused);
        accept("d may be 7", 7, 2);
    }

    private static void dIsNotAbove1000000000() {
        int[] refused = {1000000000, 1000000001, 1000000007, 1000000015, Integer.MAX_VALUE};
        refuseAll("d is not above 1000000000", refused);
        accept("d may be 999999999, the greatest that is 7 modulo 8", 999999999, 250000000);
        accept("d may be 999999991", 999999991, 249999998);
    }

    private static void dIs7Modulo8() {
        refuseAll("d is 7 modulo 8", new int[] {8, 9, 10, 11, 12, 13, 14, 16, 17, 999999998, 999999995});
        accept("15 is 7 modulo 8", 15, 4);
        accept("23 is 7 modulo 8", 23, 6);
    }

    private static void refuseAll(String sentence, int[] refused) {
        for (int d : refused) {
            TRIAL.refuses(sentence + ": " + d + " first", Trial.ARGUMENT, Trial.nothing(), clock -> clock.discriminant(d));
            TRIAL.refuses(sentence + ": " + d + " later", Trial.ARGUMENT, RESTING, clock -> clock.discriminant(d));
        }
    }

    private static void accept(String sentence, int d, int lastOfUnit) {
        Trial.Question unit = clock -> {
            clock.discriminant(d);
            clock.begin(1);
            return Trial.form(clock, Trial.NONE, 2);
        };
        TRIAL.answers(sentence, Trial.nothing(), unit, "1 1 " + lastOfUnit);
        TRIAL.answers(sentence + ", later too", RESTING, unit, "1 1 " + lastOfUnit);
    }

    private static void formHasNoCommonDivisor() {
        refuseForm("3 divides 3, 3, 6", 63, 3, 3);
        refuseForm("3 divides 6, 3, 3", 63, 6, 3);
        refuseForm("3 divides 3, -3, 6", 63, 3, -3);
        refuseForm("5 divides 5, 5, 10", 175, 5, 5);
        putAnswers("3 divides only 9 and 3 of 9, 3, 2", 63, 9, 3, "9 3 2");
        putAnswers("2 divides only 8 and 2 of 8, 1, 2", 63, 8, 1, "8 1 2");
        putAnswers("3 divides only 3 and 9 of 2, 3, 9", 63, 2, 3, "2 3 9");
        TRIAL.answers("(3, 3, 6) is not counted", Trial.with(63), SquaringClock::classes, 4);
    }

    private static void refuseForm(String sentence, int d, int a, int b) {
        Trial.Deed full = Trial.with(d).then(clock -> clock.put(1, 1, 1));
        TRIAL.refuses(sentence, Trial.ARGUMENT, full, clock -> clock.put(0, a, b));
        TRIAL.refuses(sentence + ", over another form", Trial.ARGUMENT, full, clock -> clock.put(1, a, b));
    }

    private static void putAnswers(String sentence, int d, int a, int b, String due) {
        TRIAL.answers(sentence, Trial.with(d), clock -> {
            clock.put(0, a, b);
            return Trial.kept(clock, 0);
        }, due);
    }

    private static void reducedWhenBIsA() {
        reduces("b is a", 39, 3, 3, "3 3 4");
        reduces("b is -a", 39, 3, -3, "3 3 4");
        reduces("b is a, far off", 39, 3, 3 + 6 * 1000, "3 3 4");
        reduces("b is just above a", 23, 2, 3, "2 -1 3");
        reduces("b is just below -a", 23, 2, -3, "2 1 3");
        reduces("b is just above -a", 23, 2, -1, "2 -1 3");
        reduces("b is a is 1", 7, 1, 1, "1 1 2");
        reduces("b is -a is -1", 7, 1, -1, "1 1 2");
        isTested("b is a", 39, 3, 3, true);
        isTested("b is -a", 39, 3, -3, false);
        isTested("b is just below -a", 39, 2, -3, false);
        isTested("b is just above -a", 39, 2, -1, true);
        isTested("b is just above a", 39, 2, 3, false);
    }

    private static void reducedWhenAIsC() {
        reduces("a is c, b above 0", 15, 2, 1, "2 1 2");
        reduces("a is c, b below 0", 15, 2, -1, "2 1 2");
        reduces("a is c, b far above a", 15, 2, 1 + 4 * 1000, "2 1 2");
        reduces("a is c after a step", 15, 3, -3, "2 1 2");
        reduces("a is c after another step", 15, 3, 3, "2 1 2");
        isTested("a is c, b above 0", 15, 2, 1, true);
        isTested("a is c, b below 0", 15, 2, -1, false);
        isTested("a is c, greater numbers, b above 0", 55, 4, 3, true);
        isTested("a is c, greater numbers, b below 0", 55, 4, -3, false);
    }

    private static void reducedWhenAIsNotAboveC() {
        reduces("a is 1 above c", 23, 3, 1, "2 -1 3");
        reduces("a is 1 above c, b below 0", 23, 3, -1, "2 1 3");
        reduces("a is 1 below c", 23, 2, 1, "2 1 3");
        isTested("a is 1 above c", 39, 4, 3, false);
        isTested("a is 1 below c", 39, 3, 3, true);
    }

    /** By test, which tells forms that are not reduced from all others, as y and as proof. */
    private static void isTested(String sentence, int d, int a, int b, boolean reduced) {
        for (int place = 1; place <= 2; place++) {
            int which = place;
            TRIAL.answers(sentence + ", for test in place " + place, Trial.booked(d, 3, 1), clock -> {
                for (int i = 0; i < 3; i++) {
                    Trial.take(clock, 0, i);
                }
                clock.put(which, a, b);
                return clock.test(0) != 2;
            }, reduced);
        }
    }

    private static void reduces(String sentence, int d, int a, int b, String due) {
        TRIAL.answers(sentence, Trial.with(d), clock -> {
            clock.put(0, a, b);
            clock.reduce(0, 1);
            return Trial.kept(clock, 1);
        }, due);
    }

    private static void reducedFormsOnTheEdgeAreCountedOnce() {
        TRIAL.answers("(1, 1, 2) alone", Trial.with(7), SquaringClock::classes, 1);
        TRIAL.answers("(1, 1, 4), (2, 1, 2)", Trial.with(15), SquaringClock::classes, 2);
        TRIAL.answers("(1, 1, 10), (2, 1, 5), (2, -1, 5), (3, 3, 4)", Trial.with(39), SquaringClock::classes, 4);
        TRIAL.answers("(1, 1, 14), (2, 1, 7), (2, -1, 7), (4, 3, 4)", Trial.with(55), SquaringClock::classes, 4);
        TRIAL.answers("(7, 7, 8), and five with a below 5", Trial.with(175), SquaringClock::classes, 6);
    }

    private static void powerWith0() {
        int[] all = {7, 15, 39, 49999, 999999999};
        for (int d : all) {
            String due = "1 1 " + (1 + d) / 4;
            Trial.Deed full = Trial.with(d).then(clock -> clock.put(0, 2, 5));
            TRIAL.answers("the power with 0 of any form for " + d, full, clock -> {
                clock.raise(0, 0, 0);
                return Trial.kept(clock, 0);
            }, due);
            TRIAL.answers("the power with 0 of the power with 0 for " + d, full, clock -> {
                clock.raise(0, 0, 1);
                clock.raise(1, 0, 2);
                return Trial.kept(clock, 2);
            }, due);
        }
    }

    private static void generatorIsReduced() {
        int[] all = {7, 15, 23, 31};
        String[] firstPowers = {"1 1 2", "2 1 2", "2 1 3", "2 1 4"};
        for (int i = 0; i < all.length; i++) {
            int d = all[i];
            TRIAL.answers("x is the generator's power, which is reduced, for " + d, Trial.with(d), clock -> {
                int exponent = clock.begin(1);
                clock.put(0, 2, 1);
                clock.raise(0, exponent, 1);
                return Trial.form(clock, Trial.NONE, 0).equals(Trial.kept(clock, 1));
            }, true);
            TRIAL.answers("the generator is reduced for " + d, Trial.with(d), clock -> {
                clock.put(0, 2, 1);
                clock.reduce(0, 0);
                return Trial.kept(clock, 0);
            }, firstPowers[i]);
        }
        TRIAL.answers("for 7 it is the power with 0", Trial.with(7), clock -> clock.order(1), 1);
        TRIAL.answers("for 15 it is not", Trial.with(15), clock -> clock.order(1), 0);
    }

    /** Four rounds each, so that forms with b below 0 are mixed too, and numbers with the highest bit. */
    private static void mixingWraps() {
        int[] all = {7, 15, 23, 39, 47, 71, 2047, 49999, 50007, 999999991, 999999999};
        for (int d : all) {
            SquaringClock clock = Trial.made(Trial.with(d));
            long h = Trial.mixed(1, d, 0);
            for (int round = 0; round < 4; round++) {
                Trial.book(clock, 3 + round);
                TRIAL.expect("exponent " + round + " for " + d, (long) clock.told(round, 1), 1 + (h & 0xFFFF));
                long sum = 3 + (sumBits(clock, round) & 0xFFFF);
                TRIAL.expect("prime " + round + " for " + d, (long) clock.told(round, 2), leastPrimeFrom(sum));
                h = Trial.mixed(1, d, round + 1, clock.form(round, 1, 0), clock.form(round, 1, 1));
            }
        }
    }

    private static long sumBits(SquaringClock clock, int round) {
        return Trial.mixed(2, clock.form(round, 0, 0), clock.form(round, 0, 1), clock.form(round, 1, 0),
            clock.form(round, 1, 1), clock.told(round, 0));
    }

    private static long leastPrimeFrom(long least) {
        for (long n = least; true; n++) {
            boolean prime = n > 1;
            for (long factor = 2; factor < n && prime; factor++) {
                prime = n % factor != 0;
            }
            if (prime) {
                return n;
            }
        }
    }

    private static void exponentIs1To65536() {
        TRIAL.answers("the lowest 16 bits are all 0", Trial.with(546711), clock -> clock.begin(1), 1);
        TRIAL.answers("the lowest 16 bits are all 1", Trial.with(1237015), clock -> clock.begin(1), 65536);
        TRIAL.answers("x with exponent 1 is the generator", Trial.begun(546711, 1),
            clock -> Trial.form(clock, Trial.NONE, 0), "2 1 68339");
        TRIAL.answers("x with exponent 65536", Trial.begun(1237015, 1), clock -> {
            clock.put(0, 2, 1);
            for (int i = 0; i < 16; i++) {
                clock.multiply(0, 0, 0);
            }
            return Trial.kept(clock, 0).equals(Trial.form(clock, Trial.NONE, 0));
        }, true);
    }

    private static void exponentOfTheFirstRound() {
        TRIAL.answers("before the first round none is booked", Trial.with(39), clock -> clock.begin(9),
            1 + (Trial.mixed(1, 39, 0) & 0xFFFF));
        TRIAL.answers("after a new discriminant none is booked", RESTING.then(Trial.with(39)), clock -> clock.begin(9),
            1 + (Trial.mixed(1, 39, 0) & 0xFFFF));
        TRIAL.answers("a round that was dropped is not booked", Trial.begun(39, 4).then(clock -> clock.drop()),
            clock -> clock.begin(9), 1 + (Trial.mixed(1, 39, 0) & 0xFFFF));
        TRIAL.answers("before the second round one is booked", Trial.booked(39, 9, 1), clock -> clock.begin(9)
            == 1 + (Trial.mixed(1, 39, 1, clock.form(0, 1, 0), clock.form(0, 1, 1)) & 0xFFFF), true);
    }

    /** d and T for which the sum is on an edge: the least one, a prime, one above a prime, the greatest one. */
    private static void primeIsNotBelowTheSum() {
        int[][] rows = {
            {8679, 13, 3, 3}, {13311, 3, 4, 5}, {17415, 5, 5, 5}, {14935, 24, 31397, 31397}, {3679, 6, 31398, 31469},
            {31415, 1, 65521, 65521}, {27151, 5, 65522, 65537}, {31311, 3, 65537, 65537}, {36039, 18, 65538, 65539},
        };
        for (int[] row : rows) {
            SquaringClock clock = Trial.made(Trial.booked(row[0], row[1], 1));
            TRIAL.expect("the sum for " + row[0], 3 + (sumBits(clock, 0) & 0xFFFF), (long) row[2]);
            TRIAL.expect("the least prime that is not below " + row[2], clock.told(0, 2), row[3]);
            TRIAL.expect("it holds with this prime", clock.verify(0), true);
        }
    }

    /** After s steps the proof is the power of x with 2^s / prime, rounded down; here the primes are 3, 5, 65521. */
    private static void proofStartsWithThePowerWith0() {
        int[][] rows = {{8679, 13, 3}, {17415, 5, 5}, {31415, 1, 65521}, {36039, 18, 65539}};
        for (int[] row : rows) {
            SquaringClock clock = Trial.made(Trial.squared(row[0], row[1]));
            clock.put(0, clock.form(Trial.NONE, 0, 0), clock.form(Trial.NONE, 0, 1));
            for (int step = 0; step <= row[1]; step++) {
                if (step > 0) {
                    TRIAL.expect("steps left", clock.prove(1), row[1] - step);
                }
                clock.raise(0, (1 << step) / row[2], 1);
                TRIAL.expect("proof after " + step + " steps", Trial.form(clock, Trial.NONE, 2), Trial.kept(clock, 1));
            }
        }
    }

    private static void bufferIsNoneAtFirst() {
        for (int i = 0; i < 3; i++) {
            int one = i;
            Trial.Deed full = Trial.with(23).then(clock -> {
                for (int place = 0; place < 3; place++) {
                    clock.put(place, 2, 1);
                }
            });
            TRIAL.refuses("at first none in " + i, Trial.ELEMENT, Trial.with(23), clock -> clock.buffer(one, 0));
            TRIAL.refuses("none after a new discriminant in " + i, Trial.ELEMENT, full.then(Trial.with(31)),
                clock -> clock.buffer(one, 0));
            TRIAL.refuses("none after the same discriminant in " + i, Trial.ELEMENT, full.then(Trial.with(23)),
                clock -> clock.buffer(one, 0));
            TRIAL.answers("one after it was put in " + i, full, clock -> clock.buffer(one, 0), 2);
        }
    }

    private static void noDiscriminantBeforeAllOthers() {
        Trial.Deed[] calls = {
            clock -> clock.begin(1), clock -> clock.begin(0), clock -> clock.begin(501),
            clock -> clock.work(1), clock -> clock.work(0), clock -> clock.work(501),
            clock -> clock.prove(1), clock -> clock.prove(0), clock -> clock.prove(501),
            clock -> clock.publish(),
            clock -> clock.told(Trial.NONE, 0), clock -> clock.told(0, 0), clock -> clock.told(-2, 3),
            clock -> clock.form(Trial.NONE, 0, 0), clock -> clock.form(0, 0, 0), clock -> clock.form(-2, 3, 3),
            clock -> clock.verify(0), clock -> clock.verify(Trial.NONE), clock -> clock.verify(16),
            clock -> clock.put(0, 1, 1), clock -> clock.put(3, 1, 1), clock -> clock.put(0, 0, 0),
            clock -> clock.buffer(0, 0), clock -> clock.buffer(3, 0), clock -> clock.buffer(0, 3),
            clock -> clock.reduce(0, 0), clock -> clock.reduce(3, 0), clock -> clock.reduce(0, -1),
            clock -> clock.multiply(0, 0, 0), clock -> clock.multiply(3, 0, 0), clock -> clock.multiply(0, 0, -1),
            clock -> clock.raise(0, 0, 0), clock -> clock.raise(0, -1, 0), clock -> clock.raise(3, 0, 0),
            clock -> clock.test(0), clock -> clock.test(Trial.NONE), clock -> clock.test(16),
            clock -> clock.order(1), clock -> clock.order(0), clock -> clock.order(1001),
            clock -> clock.classes(),
        };
        Trial.Deed refusedBefore = clock -> {
            try {
                clock.discriminant(8);
            } catch (IllegalArgumentException e) {
                // It is refused, so there is still none.
            }
        };
        for (int i = 0; i < calls.length; i++) {
            TRIAL.refuses("no discriminant yet, call " + i, Trial.STATE, Trial.nothing(), calls[i]);
            TRIAL.refuses("none as it was refused, call " + i, Trial.STATE, refusedBefore, calls[i]);
        }
    }

    private static void noDiscriminantIsFineForThree() {
        TRIAL.answers("rounds", Trial.nothing(), SquaringClock::rounds, 0);
        TRIAL.answers("drop", Trial.nothing(), SquaringClock::drop, false);
        TRIAL.refuses("a wrong discriminant", Trial.ARGUMENT, Trial.nothing(), clock -> clock.discriminant(8));
        TRIAL.answers("a right one", Trial.nothing(), clock -> {
            clock.discriminant(7);
            return clock.order(1);
        }, 1);
    }

    /** Calls for which two or three of the exceptions that they name fit. */
    private static void whichExceptionComesFirst() {
        Trial.Deed full = Trial.booked(15, 1, 16);
        Trial.Deed empty = Trial.with(15);
        TRIAL.refuses("discriminant: argument before running", Trial.ARGUMENT, BUSY, clock -> clock.discriminant(8));
        TRIAL.refuses("begin: argument before running", Trial.ARGUMENT, BUSY, clock -> clock.begin(0));
        TRIAL.refuses("begin: argument before a full book", Trial.ARGUMENT, full, clock -> clock.begin(501));
        TRIAL.refuses("work: argument before not running", Trial.ARGUMENT, empty, clock -> clock.work(0));
        TRIAL.refuses("work: argument before none left", Trial.ARGUMENT, Trial.squared(15, 3), clock -> clock.work(501));
        TRIAL.refuses("prove: argument before not running", Trial.ARGUMENT, empty, clock -> clock.prove(0));
        TRIAL.refuses("prove: argument before squarings left", Trial.ARGUMENT, BUSY, clock -> clock.prove(501));
        TRIAL.refuses("prove: argument before none left", Trial.ARGUMENT, Trial.proven(15, 3), clock -> clock.prove(0));
        TRIAL.refuses("put: index before a", Trial.INDEX, BUSY, clock -> clock.put(3, 0, 1));
        TRIAL.refuses("put: index before b", Trial.INDEX, BUSY, clock -> clock.put(-1, 1, 100001));
        TRIAL.refuses("put: index before no such form", Trial.INDEX, BUSY, clock -> clock.put(3, 2, 2));
        TRIAL.refuses("buffer: index before none", Trial.INDEX, BUSY, clock -> clock.buffer(1, 3));
        TRIAL.refuses("reduce: index before none", Trial.INDEX, BUSY, clock -> clock.reduce(1, 3));
        TRIAL.refuses("multiply: index before the first is none", Trial.INDEX, BUSY, clock -> clock.multiply(1, 0, 3));
        TRIAL.refuses("multiply: index before the second is none", Trial.INDEX, BUSY, clock -> clock.multiply(3, 1, 0));
        TRIAL.refuses("multiply: second index before the first is none", Trial.INDEX, BUSY,
            clock -> clock.multiply(1, 3, 0));
        TRIAL.refuses("raise: index before n", Trial.INDEX, BUSY, clock -> clock.raise(0, -1, 3));
        TRIAL.refuses("raise: index before n and none", Trial.INDEX, BUSY, clock -> clock.raise(1, -1, -1));
        TRIAL.refuses("raise: index before none", Trial.INDEX, BUSY, clock -> clock.raise(1, 1, 3));
        TRIAL.refuses("raise: n before none", Trial.ARGUMENT, BUSY, clock -> clock.raise(1, -1, 0));
        TRIAL.refuses("test: no such round before none", Trial.INDEX, BUSY, clock -> clock.test(2));
        TRIAL.refuses("test: no such round in an empty book before none", Trial.INDEX, empty, clock -> clock.test(0));
    }
}
