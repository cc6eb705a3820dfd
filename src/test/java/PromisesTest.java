import java.util.NoSuchElementException;

/** One method for each promise of the document: ordinary inputs, the edges that it names, and wrong inputs. */
public final class PromisesTest {
    private static final int NONE = SquaringClock.NONE;
    private static final Class<?> STATE = IllegalStateException.class;
    private static final Class<?> ARGUMENT = IllegalArgumentException.class;
    private static final Class<?> INDEX = IndexOutOfBoundsException.class;
    private static final Class<?> ELEMENT = NoSuchElementException.class;
    private static int wrong = 0;

    private interface Call {
        void run();
    }

    public static void main(String[] args) {
        newObject();
        discriminant();
        begin();
        work();
        prove();
        publish();
        drop();
        rounds();
        told();
        form();
        verify();
        put();
        buffer();
        reduce();
        multiply();
        raise();
        test();
        order();
        classes();
        System.out.println(wrong == 0 ? "all promises hold" : wrong + " answers are not as due");
        if (wrong != 0) {
            System.exit(1);
        }
    }

    private static void newObject() {
        SquaringClock clock = new SquaringClock();
        due("1 NONE", NONE, -1);
        due("1 rounds", clock.rounds(), 0);
        due("1 drop", clock.drop(), false);
        // Wrong arguments everywhere: the missing discriminant still comes before them.
        fails("1 begin", STATE, () -> clock.begin(0));
        fails("1 work", STATE, () -> clock.work(0));
        fails("1 prove", STATE, () -> clock.prove(0));
        fails("1 publish", STATE, () -> clock.publish());
        fails("1 told", STATE, () -> clock.told(9, 9));
        fails("1 form", STATE, () -> clock.form(9, 9, 9));
        fails("1 verify", STATE, () -> clock.verify(9));
        fails("1 put", STATE, () -> clock.put(9, 0, 0));
        fails("1 buffer", STATE, () -> clock.buffer(9, 9));
        fails("1 reduce", STATE, () -> clock.reduce(9, 9));
        fails("1 multiply", STATE, () -> clock.multiply(9, 9, 9));
        fails("1 raise", STATE, () -> clock.raise(9, -1, 9));
        fails("1 test", STATE, () -> clock.test(9));
        fails("1 order", STATE, () -> clock.order(0));
        fails("1 classes", STATE, () -> clock.classes());
    }

    private static void discriminant() {
        SquaringClock clock = new SquaringClock();
        int[] refused = {Integer.MIN_VALUE, -9, -1, 0, 6, 8, 14, 16, 999999998, 1000000000, 1000000007, Integer.MAX_VALUE};
        for (int d : refused) {
            fails("2 refused " + d, ARGUMENT, () -> clock.discriminant(d));
        }
        fails("2 still none", STATE, () -> clock.order(1));
        clock.discriminant(999999999);
        due("2 greatest", clock.order(1), 0);
        clock.discriminant(7);
        due("2 least", clock.order(1), 1);
        clock.discriminant(23);
        book(clock, 2);
        clock.put(0, 2, 1);
        fails("2 refused keeps the book", ARGUMENT, () -> clock.discriminant(24));
        due("2 the book stands", clock.rounds(), 1);
        due("2 the buffer stands", clock.buffer(0, 0), 2);
        clock.begin(2);
        fails("2 running", STATE, () -> clock.discriminant(31));
        fails("2 running and wrong", ARGUMENT, () -> clock.discriminant(32));
        due("2 still running", clock.told(NONE, 0), 2);
        clock.drop();
        clock.discriminant(23);
        due("2 the book is empty", clock.rounds(), 0);
        fails("2 no round in it", INDEX, () -> clock.told(0, 0));
        fails("2 the buffer is empty", ELEMENT, () -> clock.buffer(0, 0));
    }

    private static void begin() {
        SquaringClock clock = with(15);
        fails("3 none", ARGUMENT, () -> clock.begin(0));
        fails("3 below", ARGUMENT, () -> clock.begin(-1));
        fails("3 above", ARGUMENT, () -> clock.begin(501));
        due("3 exponent", clock.begin(3), 7584);
        fails("3 running", STATE, () -> clock.begin(3));
        fails("3 running and wrong", ARGUMENT, () -> clock.begin(0));
        due("3 T is not mixed into the exponent", again(clock, 500), 7584);
        due("3 x", form(clock, NONE, 0), "1 1 4");
        due("3 y is x at first", form(clock, NONE, 1), "1 1 4");
        due("3 proof is the power with 0 at first", form(clock, NONE, 2), "1 1 4");
        clock.drop();
        due("3 least", again(clock, 1), 7584);
        clock.drop();
        for (int i = 0; i < 16; i++) {
            book(clock, 1);
        }
        fails("3 the book is full", STATE, () -> clock.begin(1));
        fails("3 the book is full and wrong", ARGUMENT, () -> clock.begin(0));
        SquaringClock other = with(23);
        due("3 d is mixed into it", other.begin(7), 38084);
    }

    private static void work() {
        SquaringClock clock = with(23);
        fails("4 not running", STATE, () -> clock.work(1));
        fails("4 not running and wrong", ARGUMENT, () -> clock.work(0));
        clock.begin(5);
        fails("4 none", ARGUMENT, () -> clock.work(0));
        fails("4 above", ARGUMENT, () -> clock.work(501));
        due("4 x", form(clock, NONE, 0), "2 -1 3");
        due("4 left", clock.work(1), 4);
        due("4 once", form(clock, NONE, 1), "2 1 3");
        due("4 left", clock.work(3), 1);
        due("4 four times", form(clock, NONE, 1), "2 -1 3");
        due("4 x stays", form(clock, NONE, 0), "2 -1 3");
        due("4 more than are left", clock.work(500), 0);
        due("4 five times", form(clock, NONE, 1), "2 1 3");
        fails("4 none left", STATE, () -> clock.work(1));
        fails("4 none left and wrong", ARGUMENT, () -> clock.work(501));
    }

    private static void prove() {
        SquaringClock clock = with(23);
        fails("5 not running", STATE, () -> clock.prove(1));
        fails("5 not running and wrong", ARGUMENT, () -> clock.prove(0));
        clock.begin(20);
        fails("5 squarings left", STATE, () -> clock.prove(1));
        clock.work(19);
        fails("5 one squaring left and wrong", ARGUMENT, () -> clock.prove(501));
        clock.work(1);
        fails("5 none", ARGUMENT, () -> clock.prove(0));
        fails("5 above", ARGUMENT, () -> clock.prove(501));
        due("5 left", clock.prove(5), 15);
        due("5 a power with 0 yet", form(clock, NONE, 2), "1 1 6");
        due("5 more than are left", clock.prove(500), 0);
        int quotient = (1 << 20) / clock.told(NONE, 2);
        String[] powers = {"1 1 6", "2 -1 3", "2 1 3"};
        due("5 proof", form(clock, NONE, 2), powers[quotient % 3]);
        fails("5 none left", STATE, () -> clock.prove(1));
        fails("5 none left and wrong", ARGUMENT, () -> clock.prove(0));
    }

    private static void publish() {
        SquaringClock clock = with(39);
        fails("6 not running", STATE, () -> clock.publish());
        clock.begin(2);
        fails("6 squarings left", STATE, () -> clock.publish());
        clock.work(2);
        fails("6 steps left", STATE, () -> clock.publish());
        clock.prove(1);
        fails("6 one step left", STATE, () -> clock.publish());
        clock.prove(1);
        String y = form(clock, NONE, 1);
        due("6 booked", clock.publish(), 1);
        due("6 it stands in the book", form(clock, 0, 1), y);
        fails("6 no longer running", STATE, () -> clock.publish());
        book(clock, 3);
        due("6 two", clock.rounds(), 2);
        due("6 the first one stays", form(clock, 0, 1), y);
    }

    private static void drop() {
        SquaringClock clock = with(39);
        due("7 none", clock.drop(), false);
        book(clock, 2);
        clock.put(1, 2, 1);
        int exponent = clock.begin(4);
        clock.work(4);
        clock.prove(1);
        due("7 one", clock.drop(), true);
        due("7 no more", clock.drop(), false);
        fails("7 given up", INDEX, () -> clock.told(NONE, 0));
        due("7 the book stands", clock.rounds(), 1);
        due("7 the buffer stands", clock.buffer(1, 0), 2);
        due("7 begun anew", clock.begin(3), exponent);
        due("7 all squarings are left", clock.work(1), 2);
        due("7 no prime", clock.told(NONE, 2), 0);
        due("7 no proof", form(clock, NONE, 2), "1 1 10");
    }

    private static void rounds() {
        SquaringClock clock = with(7);
        for (int i = 0; i < 16; i++) {
            due("8 so many", clock.rounds(), i);
            clock.begin(1);
            due("8 a running one is not booked", clock.rounds(), i);
            clock.drop();
            book(clock, 1);
        }
        due("8 full", clock.rounds(), 16);
    }

    private static void told() {
        SquaringClock clock = with(15);
        fails("9 none running", INDEX, () -> clock.told(NONE, 0));
        fails("9 none booked", INDEX, () -> clock.told(0, 0));
        clock.begin(3);
        due("9 T", clock.told(NONE, 0), 3);
        due("9 exponent", clock.told(NONE, 1), 7584);
        clock.work(2);
        due("9 no prime yet", clock.told(NONE, 2), 0);
        clock.work(1);
        due("9 prime", clock.told(NONE, 2), 43607);
        fails("9 not booked yet", INDEX, () -> clock.told(0, 0));
        clock.prove(3);
        clock.publish();
        due("9 booked T", clock.told(0, 0), 3);
        due("9 booked exponent", clock.told(0, 1), 7584);
        due("9 booked prime", clock.told(0, 2), 43607);
        fails("9 none running any more", INDEX, () -> clock.told(NONE, 0));
        fails("9 below", INDEX, () -> clock.told(-2, 0));
        fails("9 above", INDEX, () -> clock.told(1, 0));
        fails("9 what below", INDEX, () -> clock.told(0, -1));
        fails("9 what above", INDEX, () -> clock.told(0, 3));
        due("9 the last y is mixed into the next exponent", clock.begin(2), 10497);
    }

    private static void form() {
        SquaringClock clock = with(23);
        fails("10 none running", INDEX, () -> clock.form(NONE, 0, 0));
        clock.begin(7);
        due("10 running x", form(clock, NONE, 0), "2 -1 3");
        due("10 running proof", form(clock, NONE, 2), "1 1 6");
        clock.work(7);
        due("10 running y", form(clock, NONE, 1), "2 1 3");
        fails("10 none booked", INDEX, () -> clock.form(0, 0, 0));
        clock.prove(7);
        clock.publish();
        due("10 x", form(clock, 0, 0), "2 -1 3");
        due("10 y", form(clock, 0, 1), "2 1 3");
        due("10 proof", form(clock, 0, 2), "1 1 6");
        fails("10 none running any more", INDEX, () -> clock.form(NONE, 0, 0));
        fails("10 round below", INDEX, () -> clock.form(-2, 0, 0));
        fails("10 round above", INDEX, () -> clock.form(1, 0, 0));
        fails("10 which below", INDEX, () -> clock.form(0, -1, 0));
        fails("10 which above", INDEX, () -> clock.form(0, 3, 0));
        fails("10 part below", INDEX, () -> clock.form(0, 0, -1));
        fails("10 part above", INDEX, () -> clock.form(0, 0, 3));
    }

    private static void verify() {
        int[] all = {7, 15, 23, 63, 2047, 49999, 50007, 999999999};
        for (int d : all) {
            SquaringClock clock = with(d);
            book(clock, 1);
            book(clock, 17);
            book(clock, 500);
            for (int i = 0; i < 3; i++) {
                due("11 holds " + d, clock.verify(i), true);
            }
            fails("11 above", INDEX, () -> clock.verify(3));
            fails("11 below", INDEX, () -> clock.verify(-2));
            clock.begin(1);
            fails("11 the running one is not booked", INDEX, () -> clock.verify(NONE));
        }
    }

    private static void put() {
        SquaringClock clock = with(63);
        fails("12 index below", INDEX, () -> clock.put(-1, 1, 1));
        fails("12 index above", INDEX, () -> clock.put(3, 1, 1));
        fails("12 index and form", INDEX, () -> clock.put(3, 0, 0));
        fails("12 a is 0", ARGUMENT, () -> clock.put(0, 0, 1));
        fails("12 a below", ARGUMENT, () -> clock.put(0, -2, 1));
        fails("12 a above", ARGUMENT, () -> clock.put(0, 100001, 1));
        fails("12 b below", ARGUMENT, () -> clock.put(0, 1, -100001));
        fails("12 b above", ARGUMENT, () -> clock.put(0, 1, 100001));
        fails("12 b is even", ARGUMENT, () -> clock.put(0, 1, 100000));
        fails("12 a does not divide", ARGUMENT, () -> clock.put(0, 5, 1));
        fails("12 all three by 3", ARGUMENT, () -> clock.put(0, 3, 3));
        fails("12 nothing was put", ELEMENT, () -> clock.buffer(0, 0));
        clock.put(0, 2, 1);
        due("12 put", kept(clock, 0), "2 1 8");
        fails("12 refused", ARGUMENT, () -> clock.put(0, 2, 2));
        due("12 the old one stays", kept(clock, 0), "2 1 8");
        clock.put(2, 1, -99999);
        due("12 not reduced", kept(clock, 2), "1 -99999 2499950016");
        fails("12 the others stay none", ELEMENT, () -> clock.buffer(1, 0));
        clock.put(2, 1, 99999);
        due("12 greatest b", kept(clock, 2), "1 99999 2499950016");
        clock.discriminant(399999);
        clock.put(1, 100000, 1);
        due("12 greatest a", kept(clock, 1), "100000 1 1");
    }

    private static void buffer() {
        SquaringClock clock = with(23);
        fails("13 none", ELEMENT, () -> clock.buffer(0, 0));
        fails("13 none, part wrong", INDEX, () -> clock.buffer(0, 3));
        clock.put(0, 3, 5);
        due("13 kept", kept(clock, 0), "3 5 4");
        fails("13 part below", INDEX, () -> clock.buffer(0, -1));
        fails("13 part above", INDEX, () -> clock.buffer(0, 3));
        fails("13 index below", INDEX, () -> clock.buffer(-1, 0));
        fails("13 index above", INDEX, () -> clock.buffer(3, 0));
        clock.discriminant(999999999);
        clock.put(2, 1, 99999);
        due("13 above an int", clock.buffer(2, 2), 2749950000L);
    }

    private static void reduce() {
        SquaringClock clock = with(23);
        fails("14 none", ELEMENT, () -> clock.reduce(0, 1));
        fails("14 none, index wrong", INDEX, () -> clock.reduce(0, 3));
        clock.put(0, 3, 5);
        clock.reduce(0, 1);
        due("14 reduced", kept(clock, 1), "2 1 3");
        due("14 the form itself stays", kept(clock, 0), "3 5 4");
        clock.reduce(0, 0);
        due("14 in its own place", kept(clock, 0), "2 1 3");
        fails("14 into a wrong place", INDEX, () -> clock.reduce(0, -1));
        fails("14 from a wrong place", INDEX, () -> clock.reduce(3, 0));
        fails("14 of none", ELEMENT, () -> clock.reduce(2, 0));
        due("14 nothing changed", kept(clock, 0), "2 1 3");
        due("14 a is c", reduced(15, 2, -1), "2 1 2");
        due("14 b is -a", reduced(15, 3, -3), "2 1 2");
        due("14 b is a", reduced(175, 7, 7), "7 7 8");
        due("14 b is -a, a below c", reduced(175, 7, -7), "7 7 8");
        due("14 the unit", reduced(15, 1, -1), "1 1 4");
        due("14 far off", reduced(999999999, 1, -99999), "1 1 250000000");
    }

    private static void multiply() {
        SquaringClock clock = with(15);
        clock.put(0, 2, 1);
        fails("15 left none", ELEMENT, () -> clock.multiply(1, 0, 0));
        fails("15 right none", ELEMENT, () -> clock.multiply(0, 1, 0));
        fails("15 none, index wrong", INDEX, () -> clock.multiply(0, 1, 3));
        fails("15 first index", INDEX, () -> clock.multiply(-1, 0, 0));
        fails("15 second index", INDEX, () -> clock.multiply(0, 3, 0));
        fails("15 third index", INDEX, () -> clock.multiply(0, 0, -1));
        due("15 nothing changed", kept(clock, 0), "2 1 2");
        clock.multiply(0, 0, 1);
        due("15 square", kept(clock, 1), "1 1 4");
        clock.multiply(0, 1, 0);
        due("15 into its own place", kept(clock, 0), "2 1 2");
        due("15 a and its inverse", product(23, 2, 1, 2, -1), "1 1 6");
        due("15 square of a", product(23, 2, 1, 2, 1), "2 -1 3");
        due("15 not reduced", product(23, 3, 5, 3, 5), "2 -1 3");
        due("15 unit", product(23, 1, 99, 3, 5), "2 1 3");
        due("15 common divisor in all", product(39, 3, 3, 3, 3), "1 1 10");
        due("15 order 4", product(39, 2, 1, 2, 1), "3 3 4");
        due("15 order 4", product(39, 3, 3, 2, 1), "2 -1 5");
    }

    private static void raise() {
        SquaringClock clock = with(47);
        fails("16 none", ELEMENT, () -> clock.raise(0, 0, 1));
        fails("16 none, n below", ARGUMENT, () -> clock.raise(0, -1, 1));
        fails("16 index before n", INDEX, () -> clock.raise(3, -1, 0));
        fails("16 target before n", INDEX, () -> clock.raise(0, -1, -1));
        clock.put(0, 2, 1);
        fails("16 n below", ARGUMENT, () -> clock.raise(0, Integer.MIN_VALUE, 1));
        String[] powers = {"1 1 12", "2 1 6", "3 -1 4", "3 1 4", "2 -1 6"};
        for (int n = 0; n < 12; n++) {
            clock.raise(0, n, 1);
            due("16 power " + n, kept(clock, 1), powers[n % 5]);
        }
        clock.raise(0, Integer.MAX_VALUE, 2);
        due("16 greatest power", kept(clock, 2), powers[Integer.MAX_VALUE % 5]);
        due("16 the form itself stays", kept(clock, 0), "2 1 6");
        clock.raise(0, 4, 0);
        due("16 into its own place", kept(clock, 0), powers[4]);
        clock.put(1, 2, 5);
        clock.raise(1, 1, 1);
        due("16 the power with 1 is reduced", kept(clock, 1), "2 1 6");
    }

    private static void test() {
        SquaringClock clock = with(49999);
        fails("17 no round", INDEX, () -> clock.test(0));
        book(clock, 9);
        fails("17 empty buffer", ELEMENT, () -> clock.test(0));
        fails("17 empty buffer, no round", INDEX, () -> clock.test(1));
        for (int which = 0; which < 3; which++) {
            fails("17 not all there", ELEMENT, () -> clock.test(0));
            take(clock, which);
        }
        due("17 could be booked", clock.test(0), 0);
        clock.begin(9);
        fails("17 the running one", INDEX, () -> clock.test(NONE));
        clock.drop();
        clock.put(0, clock.form(0, 0, 0), clock.form(0, 0, 1) + 2 * clock.form(0, 0, 0));
        due("17 alike to x is not x", clock.test(0), 1);
        clock.put(1, clock.form(0, 1, 0), clock.form(0, 1, 1) + 2 * clock.form(0, 1, 0));
        due("17 x comes before y", clock.test(0), 1);
        take(clock, 0);
        due("17 y not reduced", clock.test(0), 2);
        take(clock, 1);
        clock.put(2, clock.form(0, 2, 0), clock.form(0, 2, 1) - 2 * clock.form(0, 2, 0));
        due("17 proof not reduced", clock.test(0), 2);
        clock.put(2, 2, 1);
        due("17 another proof", clock.test(0), 3);
        take(clock, 2);
        clock.put(1, 2, 1);
        due("17 another y", clock.test(0), 3);
        take(clock, 1);
        due("17 as at first", clock.test(0), 0);
        book(clock, 9);
        due("17 not x of the other round", clock.test(1), 1);
    }

    private static void order() {
        SquaringClock clock = with(49999);
        fails("18 none", ARGUMENT, () -> clock.order(0));
        fails("18 below", ARGUMENT, () -> clock.order(-1));
        fails("18 above", ARGUMENT, () -> clock.order(1001));
        due("18 greatest", clock.order(1000), 183);
        due("18 just", clock.order(183), 183);
        due("18 just not", clock.order(182), 0);
        due("18 one", with(7).order(1), 1);
        due("18 two", with(15).order(1000), 2);
        due("18 not all classes", with(2047).order(1000), 9);
    }

    private static void classes() {
        int[] ds = {7, 15, 23, 31, 39, 47, 55, 63, 71, 79, 87, 95, 2047, 49999};
        int[] counts = {1, 2, 3, 3, 4, 5, 4, 4, 7, 5, 6, 8, 18, 183};
        for (int i = 0; i < ds.length; i++) {
            due("19 classes of " + ds[i], with(ds[i]).classes(), counts[i]);
        }
        SquaringClock clock = with(50007);
        fails("19 above", ARGUMENT, () -> clock.classes());
    }

    private static SquaringClock with(int d) {
        SquaringClock clock = new SquaringClock();
        clock.discriminant(d);
        return clock;
    }

    private static void book(SquaringClock clock, int t) {
        clock.begin(t);
        clock.work(t);
        clock.prove(t);
        clock.publish();
    }

    private static int again(SquaringClock clock, int t) {
        clock.drop();
        return clock.begin(t);
    }

    private static void take(SquaringClock clock, int which) {
        clock.put(which, clock.form(0, which, 0), clock.form(0, which, 1));
    }

    private static String form(SquaringClock clock, int round, int which) {
        return clock.form(round, which, 0) + " " + clock.form(round, which, 1) + " " + clock.form(round, which, 2);
    }

    private static String kept(SquaringClock clock, int i) {
        return clock.buffer(i, 0) + " " + clock.buffer(i, 1) + " " + clock.buffer(i, 2);
    }

    private static String reduced(int d, int a, int b) {
        SquaringClock clock = with(d);
        clock.put(0, a, b);
        clock.reduce(0, 0);
        return kept(clock, 0);
    }

    private static String product(int d, int a, int b, int otherA, int otherB) {
        SquaringClock clock = with(d);
        clock.put(0, a, b);
        clock.put(1, otherA, otherB);
        clock.multiply(0, 1, 2);
        return kept(clock, 2);
    }

    private static void due(String what, Object got, Object want) {
        boolean same = got instanceof Number && want instanceof Number
            ? ((Number) got).longValue() == ((Number) want).longValue()
            : got.equals(want);
        if (!same) {
            wrong++;
            System.out.println("promise " + what + ": answered " + got + ", due is " + want);
        }
    }

    private static void fails(String what, Class<?> want, Call call) {
        Object got = "nothing";
        try {
            call.run();
        } catch (RuntimeException e) {
            got = e.getClass();
        }
        due(what, got, want);
    }
}
