/** The boundary cases that promises 1 to 11 name, each on both sides. */
public final class RoundsEdgesTest {
    private static final Trial TRIAL = new Trial();
    private static final int NONE = Trial.NONE;
    private static final int[] FAR_OFF = {-2, 17, 500, Integer.MIN_VALUE, Integer.MAX_VALUE};
    private static final int[] NOT_1_TO_500 = {0, -1, -500, 501, 502, Integer.MIN_VALUE, Integer.MAX_VALUE};
    /** No round is running: none was begun, one was given up, one was booked. */
    private static final Trial.Deed[] NOT_RUNNING = {
        Trial.with(39), Trial.begun(39, 4).then(clock -> clock.drop()), Trial.booked(39, 4, 1),
        Trial.booked(39, 4, 1).then(Trial.with(23)), Trial.proven(39, 4).then(clock -> clock.drop()),
    };
    /** A round is running: just begun, in its squarings, before, in and after its steps. */
    private static final Trial.Deed[] RUNNING = {
        Trial.begun(39, 4), Trial.begun(39, 4).then(clock -> clock.work(3)), Trial.squared(39, 4),
        Trial.squared(39, 4).then(clock -> clock.prove(3)), Trial.proven(39, 4),
        Trial.booked(39, 4, 15).then(clock -> clock.begin(1)),
    };

    public static void main(String[] args) {
        newObjectHasNoDiscriminant();
        discriminantEmptiesTheBook();
        discriminantEmptiesTheBuffer();
        discriminantWhileRunning();
        beginWith1To500();
        beginWhileRunning();
        beginWith16Booked();
        workWith1To500();
        workMoreThanIsLeft();
        workWhenNotRunning();
        workWhenNoneAreLeft();
        proveWith1To500();
        proveMoreThanIsLeft();
        proveWhenNotRunning();
        proveWhenSquaringsAreLeft();
        proveWhenNoStepsAreLeft();
        publishWhenNotRunning();
        publishWhenSomethingIsLeft();
        publishUpTo16();
        dropWithAndWithoutARound();
        roundsFrom0To16();
        toldOfNoSuchRound();
        toldOfNoSuchWhat();
        primeIs0AsLongAsSquaringsAreLeft();
        formOfNoSuchRound();
        formOfNoSuchWhichOrPart();
        formsAsTheyAreSoFar();
        verifyOfNoSuchRound();
        verifyOfTheEdges();
        TRIAL.end();
    }

    private static void newObjectHasNoDiscriminant() {
        TRIAL.refuses("no discriminant at first", Trial.STATE, Trial.nothing(), clock -> clock.begin(1));
        TRIAL.answers("one later", Trial.with(39), clock -> clock.begin(1), 1 + (Trial.mixed(1, 39, 0) & 0xFFFF));
    }

    private static void discriminantEmptiesTheBook() {
        int[] counts = {1, 2, 15, 16};
        for (int count : counts) {
            Trial.Deed anew = Trial.booked(39, 1, count).then(Trial.with(39));
            TRIAL.answers("an empty book after " + count, anew, SquaringClock::rounds, 0);
            TRIAL.refuses("no round in it after " + count, Trial.INDEX, anew, clock -> clock.told(0, 0));
            TRIAL.refuses("no last round in it after " + count, Trial.INDEX, anew, clock -> clock.verify(count - 1));
            TRIAL.answers("room in it after " + count, anew, clock -> Trial.book(clock, 3), 1);
        }
    }

    private static void discriminantEmptiesTheBuffer() {
        Trial.Deed full = Trial.with(39).then(clock -> {
            clock.put(0, 2, 1);
            clock.put(1, 3, 3);
            clock.put(2, 1, 1);
        });
        for (int i = 0; i < 3; i++) {
            int one = i;
            TRIAL.refuses("an empty buffer", Trial.ELEMENT, full.then(Trial.with(39)), clock -> clock.reduce(one, one));
        }
        Trial.Deed booked = Trial.booked(39, 2, 1).then(clock -> {
            for (int i = 0; i < 3; i++) {
                Trial.take(clock, 0, i);
            }
        });
        TRIAL.answers("the buffer stays while rounds are booked", booked.then(clock -> Trial.book(clock, 3)),
            clock -> clock.test(0), 0);
    }

    private static void discriminantWhileRunning() {
        for (Trial.Deed recipe : RUNNING) {
            TRIAL.refuses("discriminant while running", Trial.STATE, recipe, clock -> clock.discriminant(23));
            TRIAL.refuses("the same one while running", Trial.STATE, recipe, clock -> clock.discriminant(39));
            TRIAL.answers("discriminant after drop", recipe.then(clock -> clock.drop()), clock -> {
                clock.discriminant(23);
                return clock.begin(1);
            }, 1 + (Trial.mixed(1, 23, 0) & 0xFFFF));
        }
        for (Trial.Deed recipe : NOT_RUNNING) {
            TRIAL.answers("discriminant when none is running", recipe, clock -> {
                clock.discriminant(7);
                return clock.order(1);
            }, 1);
        }
    }

    private static void beginWith1To500() {
        for (Trial.Deed recipe : NOT_RUNNING) {
            for (int t : NOT_1_TO_500) {
                TRIAL.refuses("begin with " + t, Trial.ARGUMENT, recipe, clock -> clock.begin(t));
            }
        }
        int[] right = {1, 2, 499, 500};
        for (int t : right) {
            TRIAL.answers("begin with " + t, Trial.with(39), clock -> clock.begin(t), 1 + (Trial.mixed(1, 39, 0) & 0xFFFF));
            TRIAL.answers("T is " + t, Trial.begun(39, t), clock -> clock.told(NONE, 0), t);
            TRIAL.answers("one less are left of " + t, Trial.begun(39, t), clock -> clock.work(1), t - 1);
        }
    }

    private static void beginWhileRunning() {
        for (Trial.Deed recipe : RUNNING) {
            TRIAL.refuses("begin while running", Trial.STATE, recipe, clock -> clock.begin(4));
            TRIAL.answers("begin after drop", recipe.then(clock -> clock.drop()), clock -> clock.begin(4) > 0, true);
        }
    }

    private static void beginWith16Booked() {
        TRIAL.refuses("begin with 16 booked", Trial.STATE, Trial.booked(39, 2, 16), clock -> clock.begin(1));
        TRIAL.refuses("begin with 500 and 16 booked", Trial.STATE, Trial.booked(39, 2, 16), clock -> clock.begin(500));
        TRIAL.answers("begin with 15 booked", Trial.booked(39, 2, 15), clock -> clock.begin(1)
            == 1 + (Trial.mixed(1, 39, 15, clock.form(14, 1, 0), clock.form(14, 1, 1)) & 0xFFFF), true);
        TRIAL.answers("begin after 16 and a new discriminant", Trial.booked(39, 2, 16).then(Trial.with(39)),
            clock -> clock.begin(1), 1 + (Trial.mixed(1, 39, 0) & 0xFFFF));
    }

    private static void workWith1To500() {
        for (int n : NOT_1_TO_500) {
            TRIAL.refuses("work " + n, Trial.ARGUMENT, Trial.begun(39, 4), clock -> clock.work(n));
            TRIAL.refuses("work " + n + " later", Trial.ARGUMENT, Trial.begun(39, 4).then(clock -> clock.work(1)),
                clock -> clock.work(n));
        }
        TRIAL.answers("work 1", Trial.begun(39, 500), clock -> clock.work(1), 499);
        TRIAL.answers("work 2", Trial.begun(39, 500), clock -> clock.work(2), 498);
        TRIAL.answers("work 499", Trial.begun(39, 500), clock -> clock.work(499), 1);
        TRIAL.answers("work 500", Trial.begun(39, 500), clock -> clock.work(500), 0);
    }

    private static void workMoreThanIsLeft() {
        TRIAL.answers("one less than is left", Trial.begun(47, 4), clock -> clock.work(3), 1);
        TRIAL.answers("all that is left", Trial.begun(47, 4), clock -> clock.work(4), 0);
        TRIAL.answers("one more than is left", Trial.begun(47, 4), clock -> clock.work(5), 0);
        TRIAL.answers("500 when 1 is left", Trial.begun(47, 4).then(clock -> clock.work(3)), clock -> clock.work(500), 0);
        int[] most = {4, 5, 500};
        for (int n : most) {
            TRIAL.answers("no more squarings than are left, of " + n, Trial.begun(47, 4), clock -> {
                clock.work(n);
                clock.put(0, clock.form(NONE, 0, 0), clock.form(NONE, 0, 1));
                clock.raise(0, 16, 1);
                return Trial.kept(clock, 1).equals(Trial.form(clock, NONE, 1));
            }, true);
        }
    }

    private static void workWhenNotRunning() {
        for (Trial.Deed recipe : NOT_RUNNING) {
            TRIAL.refuses("work when none is running", Trial.STATE, recipe, clock -> clock.work(1));
            TRIAL.refuses("work 500 when none is running", Trial.STATE, recipe, clock -> clock.work(500));
            TRIAL.answers("work when one is", recipe.then(clock -> clock.begin(2)), clock -> clock.work(1), 1);
        }
    }

    private static void workWhenNoneAreLeft() {
        int[] all = {1, 4, 500};
        for (int t : all) {
            TRIAL.refuses("work when none of " + t + " are left", Trial.STATE, Trial.squared(39, t),
                clock -> clock.work(1));
            TRIAL.refuses("work when all of " + t + " is done", Trial.STATE, Trial.proven(39, t),
                clock -> clock.work(1));
        }
        TRIAL.answers("work when one is left", Trial.begun(39, 4).then(clock -> clock.work(3)), clock -> clock.work(1), 0);
    }

    private static void proveWith1To500() {
        for (int n : NOT_1_TO_500) {
            TRIAL.refuses("prove " + n, Trial.ARGUMENT, Trial.squared(39, 4), clock -> clock.prove(n));
            TRIAL.refuses("prove " + n + " later", Trial.ARGUMENT, Trial.squared(39, 4).then(clock -> clock.prove(1)),
                clock -> clock.prove(n));
        }
        TRIAL.answers("prove 1", Trial.squared(39, 500), clock -> clock.prove(1), 499);
        TRIAL.answers("prove 2", Trial.squared(39, 500), clock -> clock.prove(2), 498);
        TRIAL.answers("prove 499", Trial.squared(39, 500), clock -> clock.prove(499), 1);
        TRIAL.answers("prove 500", Trial.squared(39, 500), clock -> clock.prove(500), 0);
    }

    /** The prime for 8679 and 13 squarings is 3, so each step changes the proof. */
    private static void proveMoreThanIsLeft() {
        TRIAL.answers("one less than is left", Trial.squared(8679, 13), clock -> clock.prove(12), 1);
        TRIAL.answers("all that is left", Trial.squared(8679, 13), clock -> clock.prove(13), 0);
        TRIAL.answers("one more than is left", Trial.squared(8679, 13), clock -> clock.prove(14), 0);
        TRIAL.answers("500 when 1 is left", Trial.squared(8679, 13).then(clock -> clock.prove(12)),
            clock -> clock.prove(500), 0);
        int[] most = {13, 14, 500};
        for (int n : most) {
            TRIAL.answers("no more steps than are left, of " + n, Trial.squared(8679, 13), clock -> {
                clock.prove(n);
                clock.put(0, clock.form(NONE, 0, 0), clock.form(NONE, 0, 1));
                clock.raise(0, (1 << 13) / 3, 1);
                return Trial.kept(clock, 1).equals(Trial.form(clock, NONE, 2));
            }, true);
        }
    }

    private static void proveWhenNotRunning() {
        for (Trial.Deed recipe : NOT_RUNNING) {
            TRIAL.refuses("prove when none is running", Trial.STATE, recipe, clock -> clock.prove(1));
            TRIAL.refuses("prove 500 when none is running", Trial.STATE, recipe, clock -> clock.prove(500));
            TRIAL.answers("prove when one is", recipe.then(clock -> {
                clock.begin(2);
                clock.work(2);
            }), clock -> clock.prove(1), 1);
        }
    }

    private static void proveWhenSquaringsAreLeft() {
        TRIAL.refuses("prove when all squarings are left", Trial.STATE, Trial.begun(39, 4), clock -> clock.prove(1));
        TRIAL.refuses("prove when one squaring is left", Trial.STATE, Trial.begun(39, 4).then(clock -> clock.work(3)),
            clock -> clock.prove(1));
        TRIAL.refuses("prove when the only squaring is left", Trial.STATE, Trial.begun(39, 1), clock -> clock.prove(1));
        TRIAL.answers("prove when none is left", Trial.begun(39, 4).then(clock -> clock.work(4)),
            clock -> clock.prove(1), 3);
    }

    private static void proveWhenNoStepsAreLeft() {
        int[] all = {1, 4, 500};
        for (int t : all) {
            TRIAL.refuses("prove when no steps of " + t + " are left", Trial.STATE, Trial.proven(39, t),
                clock -> clock.prove(1));
        }
        TRIAL.answers("prove when one is left", Trial.squared(39, 4).then(clock -> clock.prove(3)),
            clock -> clock.prove(1), 0);
    }

    private static void publishWhenNotRunning() {
        for (Trial.Deed recipe : NOT_RUNNING) {
            TRIAL.refuses("publish when none is running", Trial.STATE, recipe, clock -> clock.publish());
        }
        TRIAL.refuses("publish when the book is full", Trial.STATE, Trial.booked(39, 1, 16), clock -> clock.publish());
        TRIAL.answers("publish when one is running", Trial.proven(39, 4), SquaringClock::publish, 1);
    }

    private static void publishWhenSomethingIsLeft() {
        TRIAL.refuses("all is left", Trial.STATE, Trial.begun(39, 4), clock -> clock.publish());
        TRIAL.refuses("one squaring is left", Trial.STATE, Trial.begun(39, 4).then(clock -> clock.work(3)),
            clock -> clock.publish());
        TRIAL.refuses("all steps are left", Trial.STATE, Trial.squared(39, 4), clock -> clock.publish());
        TRIAL.refuses("one step is left", Trial.STATE, Trial.squared(39, 4).then(clock -> clock.prove(3)),
            clock -> clock.publish());
        TRIAL.refuses("the only step is left", Trial.STATE, Trial.squared(39, 1), clock -> clock.publish());
        TRIAL.answers("nothing is left", Trial.proven(39, 4), SquaringClock::publish, 1);
        TRIAL.answers("nothing is left of the least round", Trial.proven(39, 1), SquaringClock::publish, 1);
        TRIAL.answers("nothing is left of the greatest round", Trial.proven(39, 500), SquaringClock::publish, 1);
    }

    private static void publishUpTo16() {
        SquaringClock clock = Trial.made(Trial.with(47));
        for (int i = 1; i <= 16; i++) {
            TRIAL.expect("publish number " + i, Trial.book(clock, i), i);
        }
        for (int i = 1; i <= 16; i++) {
            TRIAL.expect("the round stays where it was booked", clock.told(i - 1, 0), i);
            TRIAL.expect("it holds", clock.verify(i - 1), true);
        }
    }

    private static void dropWithAndWithoutARound() {
        for (Trial.Deed recipe : RUNNING) {
            TRIAL.answers("drop when one is running", recipe, SquaringClock::drop, true);
            TRIAL.answers("drop twice", recipe.then(clock -> clock.drop()), SquaringClock::drop, false);
            TRIAL.refuses("a dropped round is not told of", Trial.INDEX, recipe.then(clock -> clock.drop()),
                clock -> clock.told(NONE, 0));
            TRIAL.answers("drop leaves the book", recipe, clock -> {
                int before = clock.rounds();
                clock.drop();
                return clock.rounds() - before;
            }, 0);
        }
        for (Trial.Deed recipe : NOT_RUNNING) {
            TRIAL.answers("drop when none is running", recipe, SquaringClock::drop, false);
            TRIAL.expect("drop changes nothing then", Trial.story(Trial.made(recipe.then(clock -> clock.drop()))),
                Trial.story(Trial.made(recipe)));
        }
        TRIAL.answers("drop with a full book", Trial.booked(39, 1, 16), SquaringClock::drop, false);
        TRIAL.answers("a round after a dropped one has nothing of it", Trial.proven(39, 4), clock -> {
            clock.drop();
            clock.begin(2);
            return clock.told(NONE, 2) + " " + Trial.form(clock, NONE, 2) + " " + clock.work(1);
        }, "0 1 1 10 1");
    }

    private static void roundsFrom0To16() {
        TRIAL.answers("rounds of a new object", Trial.nothing(), SquaringClock::rounds, 0);
        TRIAL.answers("rounds of an empty book", Trial.with(39), SquaringClock::rounds, 0);
        for (int count = 1; count <= 16; count++) {
            TRIAL.answers("rounds", Trial.booked(39, 2, count), SquaringClock::rounds, count);
        }
        for (int i = 0; i < RUNNING.length - 1; i++) {
            TRIAL.answers("a running round is not booked", RUNNING[i], SquaringClock::rounds, 0);
        }
        TRIAL.answers("a running round is not booked beside 15", RUNNING[RUNNING.length - 1], SquaringClock::rounds, 15);
    }

    private static void toldOfNoSuchRound() {
        for (Trial.Deed recipe : NOT_RUNNING) {
            TRIAL.refuses("told of none running", Trial.INDEX, recipe, clock -> clock.told(NONE, 0));
        }
        int[] counts = {0, 1, 16};
        for (int count : counts) {
            for (int round : FAR_OFF) {
                TRIAL.refuses("told of round " + round + " of " + count, Trial.INDEX, Trial.booked(39, 4, count),
                    clock -> clock.told(round, 0));
            }
            TRIAL.refuses("told of the next round of " + count, Trial.INDEX, Trial.booked(39, 4, count),
                clock -> clock.told(count, 0));
        }
        TRIAL.refuses("told of the running one by its number", Trial.INDEX, Trial.proven(39, 4), clock -> clock.told(0, 0));
        TRIAL.answers("told of the running one", Trial.proven(39, 4), clock -> clock.told(NONE, 0), 4);
        TRIAL.answers("told of the only one", Trial.booked(39, 4, 1), clock -> clock.told(0, 0), 4);
        TRIAL.answers("told of the last one", Trial.booked(39, 4, 16), clock -> clock.told(15, 0), 4);
        TRIAL.answers("told of the running one, not of the last", Trial.booked(39, 4, 1).then(clock -> clock.begin(7)),
            clock -> clock.told(NONE, 0) + " " + clock.told(0, 0), "7 4");
    }

    private static void toldOfNoSuchWhat() {
        int[] wrong = {-1, 3, 4, Integer.MIN_VALUE, Integer.MAX_VALUE};
        for (int what : wrong) {
            TRIAL.refuses("told " + what, Trial.INDEX, Trial.booked(39, 4, 1), clock -> clock.told(0, what));
            TRIAL.refuses("told " + what + " of the running one", Trial.INDEX, Trial.begun(39, 4),
                clock -> clock.told(NONE, what));
        }
        TRIAL.answers("told 0", Trial.booked(8679, 13, 1), clock -> clock.told(0, 0), 13);
        TRIAL.answers("told 1", Trial.booked(8679, 13, 1), clock -> clock.told(0, 1),
            1 + (Trial.mixed(1, 8679, 0) & 0xFFFF));
        TRIAL.answers("told 2", Trial.booked(8679, 13, 1), clock -> clock.told(0, 2), 3);
    }

    private static void primeIs0AsLongAsSquaringsAreLeft() {
        TRIAL.answers("all squarings left", Trial.begun(8679, 13), clock -> clock.told(NONE, 2), 0);
        TRIAL.answers("one squaring left", Trial.begun(8679, 13).then(clock -> clock.work(12)),
            clock -> clock.told(NONE, 2), 0);
        TRIAL.answers("none left", Trial.begun(8679, 13).then(clock -> clock.work(13)), clock -> clock.told(NONE, 2), 3);
        TRIAL.answers("none left, one by one", Trial.begun(8679, 13), clock -> {
            for (int i = 0; i < 13; i++) {
                clock.work(1);
            }
            return clock.told(NONE, 2);
        }, 3);
        TRIAL.answers("steps made", Trial.proven(8679, 13), clock -> clock.told(NONE, 2), 3);
        TRIAL.answers("left again in the next round", Trial.booked(8679, 13, 1).then(clock -> clock.begin(2)),
            clock -> clock.told(NONE, 2) + " " + clock.told(0, 2), "0 3");
    }

    private static void formOfNoSuchRound() {
        for (Trial.Deed recipe : NOT_RUNNING) {
            TRIAL.refuses("form of none running", Trial.INDEX, recipe, clock -> clock.form(NONE, 0, 0));
        }
        int[] counts = {0, 1, 16};
        for (int count : counts) {
            for (int round : FAR_OFF) {
                TRIAL.refuses("form of round " + round + " of " + count, Trial.INDEX, Trial.booked(39, 4, count),
                    clock -> clock.form(round, 0, 0));
            }
            TRIAL.refuses("form of the next round of " + count, Trial.INDEX, Trial.booked(39, 4, count),
                clock -> clock.form(count, 0, 0));
        }
        TRIAL.refuses("form of the running one by its number", Trial.INDEX, Trial.proven(39, 4),
            clock -> clock.form(0, 0, 0));
        TRIAL.answers("form of the running one", Trial.begun(39, 4), clock -> Trial.form(clock, NONE, 2), "1 1 10");
        TRIAL.answers("forms of the last one hold", Trial.booked(39, 4, 16), clock -> {
            clock.put(0, 2, 1);
            clock.raise(0, clock.told(15, 1), 0);
            return Trial.kept(clock, 0).equals(Trial.form(clock, 15, 0));
        }, true);
    }

    private static void formOfNoSuchWhichOrPart() {
        int[] wrong = {-1, 3, 4, Integer.MIN_VALUE, Integer.MAX_VALUE};
        for (int one : wrong) {
            TRIAL.refuses("form " + one, Trial.INDEX, Trial.booked(39, 4, 1), clock -> clock.form(0, one, 0));
            TRIAL.refuses("part " + one, Trial.INDEX, Trial.booked(39, 4, 1), clock -> clock.form(0, 0, one));
            TRIAL.refuses("last part and form " + one, Trial.INDEX, Trial.booked(39, 4, 1), clock -> clock.form(0, one, 2));
            TRIAL.refuses("last form and part " + one, Trial.INDEX, Trial.booked(39, 4, 1), clock -> clock.form(0, 2, one));
            TRIAL.refuses("form of the running one " + one, Trial.INDEX, Trial.begun(39, 4),
                clock -> clock.form(NONE, one, 0));
            TRIAL.refuses("part of the running one " + one, Trial.INDEX, Trial.begun(39, 4),
                clock -> clock.form(NONE, 1, one));
        }
        // For 23 the generator has order 3; x is its power with 38084, y the 128th power of that.
        TRIAL.answers("form 0, parts 0 to 2", Trial.booked(23, 7, 1), clock -> Trial.form(clock, 0, 0), "2 -1 3");
        TRIAL.answers("form 1, parts 0 to 2", Trial.booked(23, 7, 1), clock -> Trial.form(clock, 0, 1), "2 1 3");
        TRIAL.answers("form 2, parts 0 to 2", Trial.booked(23, 7, 1), clock -> Trial.form(clock, 0, 2), "1 1 6");
    }

    private static void formsAsTheyAreSoFar() {
        TRIAL.answers("before any squaring y is x", Trial.begun(23, 7), clock -> Trial.form(clock, NONE, 1), "2 -1 3");
        TRIAL.answers("after one squaring", Trial.begun(23, 7).then(clock -> clock.work(1)),
            clock -> Trial.form(clock, NONE, 1), "2 1 3");
        TRIAL.answers("after two squarings", Trial.begun(23, 7).then(clock -> clock.work(2)),
            clock -> Trial.form(clock, NONE, 1), "2 -1 3");
        TRIAL.answers("x is what it was", Trial.begun(23, 7).then(clock -> clock.work(1)),
            clock -> Trial.form(clock, NONE, 0), "2 -1 3");
        TRIAL.answers("before any step the proof is the power with 0", Trial.squared(8679, 13),
            clock -> Trial.form(clock, NONE, 2), "1 1 2170");
        TRIAL.answers("after one step it is still, as 2 is less than 3",
            Trial.squared(8679, 13).then(clock -> clock.prove(1)), clock -> Trial.form(clock, NONE, 2), "1 1 2170");
        TRIAL.answers("after two steps it is x, as 4 is not less than 3",
            Trial.squared(8679, 13).then(clock -> clock.prove(2)),
            clock -> Trial.form(clock, NONE, 2).equals(Trial.form(clock, NONE, 0)), true);
    }

    private static void verifyOfNoSuchRound() {
        for (Trial.Deed recipe : NOT_RUNNING) {
            TRIAL.refuses("verify of none running", Trial.INDEX, recipe, clock -> clock.verify(NONE));
        }
        for (Trial.Deed recipe : RUNNING) {
            TRIAL.refuses("verify of the running one", Trial.INDEX, recipe, clock -> clock.verify(NONE));
        }
        TRIAL.refuses("verify of the running one by its number", Trial.INDEX, Trial.proven(39, 4), clock -> clock.verify(0));
        int[] counts = {0, 1, 16};
        for (int count : counts) {
            for (int round : FAR_OFF) {
                TRIAL.refuses("verify of round " + round + " of " + count, Trial.INDEX, Trial.booked(39, 4, count),
                    clock -> clock.verify(round));
            }
            TRIAL.refuses("verify of the next round of " + count, Trial.INDEX, Trial.booked(39, 4, count),
                clock -> clock.verify(count));
        }
        TRIAL.answers("verify of the only one", Trial.booked(39, 4, 1), clock -> clock.verify(0), true);
        TRIAL.answers("verify of the first of 16", Trial.booked(39, 4, 16), clock -> clock.verify(0), true);
        TRIAL.answers("verify of the last of 16", Trial.booked(39, 4, 16), clock -> clock.verify(15), true);
    }

    /** Least and greatest d, T, prime and exponent. */
    private static void verifyOfTheEdges() {
        int[][] rows = {{7, 1}, {7, 500}, {999999999, 1}, {999999999, 500}, {8679, 13}, {13311, 3}, {36039, 18},
            {546711, 1}, {1237015, 500}};
        for (int[] row : rows) {
            TRIAL.answers("verify for " + row[0] + " and " + row[1], Trial.booked(row[0], row[1], 2),
                clock -> clock.verify(0) && clock.verify(1), true);
        }
    }
}
