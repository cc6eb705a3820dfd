import java.util.NoSuchElementException;

/** What the tests of the edges share: clocks made by a recipe, and calls on them that are to answer or to be refused. */
final class Trial {
    static final Class<?> STATE = IllegalStateException.class;
    static final Class<?> ARGUMENT = IllegalArgumentException.class;
    static final Class<?> INDEX = IndexOutOfBoundsException.class;
    static final Class<?> ELEMENT = NoSuchElementException.class;
    static final int NONE = -1;

    /** Calls on a clock whose answers do not matter. */
    interface Deed {
        void on(SquaringClock clock);

        default Deed then(Deed next) {
            return clock -> {
                on(clock);
                next.on(clock);
            };
        }
    }

    interface Question {
        Object on(SquaringClock clock);
    }

    private int wrong = 0;
    private int done = 0;

    void answers(String sentence, Deed recipe, Question question, Object due) {
        expect(sentence, answer(made(recipe), question), due.toString());
    }

    /** The call throws what is due, and the clock then answers all calls as one on which it was not made. */
    void refuses(String sentence, Class<?> due, Deed recipe, Deed call) {
        SquaringClock clock = made(recipe);
        String got = answer(clock, asked -> {
            call.on(asked);
            return "no exception";
        });
        expect(sentence, got, due.getSimpleName());
        expect(sentence + ", afterwards", story(clock), story(made(recipe)));
    }

    void expect(String sentence, Object got, Object due) {
        done++;
        if (!got.equals(due)) {
            wrong++;
            System.out.println(sentence + ": answered " + got + ", due is " + due);
        }
    }

    void end() {
        System.out.println(done + " answers, " + wrong + " of them not as due");
        if (wrong != 0) {
            System.exit(1);
        }
    }

    static SquaringClock made(Deed recipe) {
        SquaringClock clock = new SquaringClock();
        recipe.on(clock);
        return clock;
    }

    static Deed nothing() {
        return clock -> { };
    }

    static Deed with(int d) {
        return clock -> clock.discriminant(d);
    }

    static Deed begun(int d, int t) {
        return with(d).then(clock -> clock.begin(t));
    }

    static Deed squared(int d, int t) {
        return begun(d, t).then(clock -> clock.work(t));
    }

    static Deed proven(int d, int t) {
        return squared(d, t).then(clock -> clock.prove(t));
    }

    static Deed booked(int d, int t, int rounds) {
        return with(d).then(clock -> {
            for (int i = 0; i < rounds; i++) {
                book(clock, t);
            }
        });
    }

    static int book(SquaringClock clock, int t) {
        clock.begin(t);
        clock.work(t);
        clock.prove(t);
        return clock.publish();
    }

    static String form(SquaringClock clock, int round, int which) {
        return clock.form(round, which, 0) + " " + clock.form(round, which, 1) + " " + clock.form(round, which, 2);
    }

    static String kept(SquaringClock clock, int i) {
        return clock.buffer(i, 0) + " " + clock.buffer(i, 1) + " " + clock.buffer(i, 2);
    }

    /** x, y or the proof of a booked round, into its place in the buffer. */
    static void take(SquaringClock clock, int round, int which) {
        clock.put(which, clock.form(round, which, 0), clock.form(round, which, 1));
    }

    /** Mixing by longs, of which 32 bits are kept: no sign and no wrapping product. */
    static long mixed(long start, long... values) {
        long mask = 0xFFFFFFFFL;
        long h = start;
        for (long v : values) {
            h = ((h ^ (v & mask)) * 0x5BD1E995L) & mask;
            h ^= h >> 15;
        }
        return h;
    }

    /** All that can be seen, and then what later calls make of the rest, in fewer than 400 calls. */
    static String story(SquaringClock clock) {
        StringBuilder text = new StringBuilder();
        tellBook(text, clock);
        tellBuffer(text, clock);
        tellRunning(text, clock);
        tell(text, clock, SquaringClock::drop);
        tell(text, clock, asked -> asked.begin(3));
        tell(text, clock, asked -> form(asked, NONE, 0));
        tell(text, clock, asked -> asked.drop());
        tell(text, clock, asked -> asked.order(40));
        tell(text, clock, asked -> asked.test(0));
        tell(text, clock, asked -> asked.verify(0));
        tell(text, clock, asked -> {
            asked.discriminant(23);
            return asked.rounds();
        });
        tell(text, clock, asked -> asked.buffer(0, 0));
        tell(text, clock, asked -> book(asked, 2));
        return text.toString();
    }

    private static void tellBook(StringBuilder text, SquaringClock clock) {
        tell(text, clock, SquaringClock::rounds);
        for (int round = NONE; round <= clock.rounds(); round++) {
            int one = round;
            for (int part = 0; part < 3; part++) {
                int which = part;
                tell(text, clock, asked -> asked.told(one, which));
                tell(text, clock, asked -> form(asked, one, which));
            }
        }
    }

    private static void tellBuffer(StringBuilder text, SquaringClock clock) {
        for (int i = 0; i < 3; i++) {
            int one = i;
            tell(text, clock, asked -> kept(asked, one));
        }
    }

    /** How much is left of it shows only when it is brought to its end. */
    private static void tellRunning(StringBuilder text, SquaringClock clock) {
        tell(text, clock, SquaringClock::publish);
        tell(text, clock, asked -> asked.work(1));
        tell(text, clock, asked -> asked.prove(1));
        tell(text, clock, asked -> asked.work(500));
        tell(text, clock, asked -> form(asked, NONE, 1));
        tell(text, clock, asked -> asked.told(NONE, 2));
        tell(text, clock, asked -> asked.prove(1));
        tell(text, clock, asked -> asked.prove(500));
        tell(text, clock, asked -> form(asked, NONE, 2));
        tell(text, clock, SquaringClock::publish);
        tell(text, clock, asked -> asked.verify(asked.rounds() - 1));
    }

    private static void tell(StringBuilder text, SquaringClock clock, Question question) {
        text.append(answer(clock, question)).append("; ");
    }

    private static String answer(SquaringClock clock, Question question) {
        try {
            return question.on(clock).toString();
        } catch (RuntimeException e) {
            return e.getClass().getSimpleName();
        }
    }
}
