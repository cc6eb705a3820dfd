import java.lang.management.ManagementFactory;
import java.lang.reflect.InvocationTargetException;
import java.lang.reflect.Method;
import java.lang.reflect.Modifier;
import java.util.ArrayList;
import java.util.Arrays;
import java.util.List;

/** What holds for the use of an object as a whole: any arguments in any state, up to its 512th call. */
public final class UseTest {
    private static final Trial TRIAL = new Trial();
    private static final int MOST_CALLS = 512;
    /** With the calls that make a state these stay below 512. */
    private static final int MOST_REFUSED = 400;
    private static final int MOST_SECONDS = 120;
    /** Bytes: no more than the JVM itself makes beside the calls. */
    private static final long MOST_ROOM = 20000;
    private static final int[] NUMBERS = {Integer.MIN_VALUE, -100001, -100000, -2, -1, 0, 1, 2, 3, 7, 15, 16, 500, 501, 1000,
        1001, 100000, 100001, 999999999, Integer.MAX_VALUE};

    public static void main(String[] args) {
        endInTime();
        // First of all: a JVM that has grown warm may leave out objects that the program asks for.
        callsMakeNoObjects();
        anyArgumentsInAnyState();
        theLastCallAnswersAsTheFirst();
        clocksKnowNothingOfEachOther();
        TRIAL.end();
    }

    /** A call that does not end would keep the test from saying so. */
    private static void endInTime() {
        Thread watch = new Thread(() -> {
            try {
                Thread.sleep(MOST_SECONDS * 1000L);
            } catch (InterruptedException e) {
                return;
            }
            System.out.println("a call has not ended");
            Runtime.getRuntime().halt(1);
        });
        watch.setDaemon(true);
        watch.start();
    }

    private static List<Trial.Deed> states() {
        Trial.Deed oneForm = clock -> clock.put(1, 2, 1);
        Trial.Deed farForms = clock -> {
            clock.put(0, 1, 99999);
            clock.put(1, 1, -99999);
            clock.put(2, 2, 99999);
        };
        Trial.Deed taken = clock -> {
            for (int which = 0; which < 3; which++) {
                Trial.take(clock, 0, which);
            }
        };
        return List.of(
            Trial.nothing(),
            Trial.with(7),
            Trial.with(7).then(oneForm),
            Trial.with(49999).then(farForms),
            Trial.with(999999999).then(farForms),
            Trial.begun(23, 1),
            Trial.begun(999999999, 500).then(farForms),
            Trial.squared(49999, 500).then(oneForm),
            Trial.squared(49999, 500).then(clock -> clock.prove(499)),
            Trial.proven(999999999, 500),
            Trial.begun(23, 4).then(SquaringClock::drop),
            Trial.booked(999999999, 20, 1).then(taken),
            Trial.booked(23, 3, 15).then(clock -> clock.begin(500)).then(taken),
            Trial.booked(49999, 1, 16).then(taken));
    }

    private static void anyArgumentsInAnyState() {
        List<Trial.Deed> states = states();
        for (Method method : SquaringClock.class.getDeclaredMethods()) {
            if (Modifier.isPublic(method.getModifiers())) {
                for (int i = 0; i < states.size(); i++) {
                    TRIAL.expect("any arguments of " + method.getName() + " in state " + i, faults(method, states.get(i)),
                        List.of());
                }
            }
        }
    }

    /** Exactly the classes that the call names are due: what the JVM throws by itself is of another class, or not named. */
    private static List<String> faults(Method method, Trial.Deed state) {
        List<Class<?>> named = Arrays.asList(method.getExceptionTypes());
        List<String> faults = new ArrayList<>();
        SquaringClock clock = Trial.made(state);
        int refused = 0;
        for (Object[] numbers : tuples(method.getParameterCount())) {
            Throwable thrown = thrown(clock, method, numbers);
            if (thrown != null && !named.contains(thrown.getClass())) {
                faults.add(Arrays.toString(numbers) + " " + thrown);
            }
            refused++;
            // Only a call that throws leaves the state as it was.
            if (thrown == null || refused == MOST_REFUSED) {
                clock = Trial.made(state);
                refused = 0;
            }
        }
        return faults;
    }

    private static List<Object[]> tuples(int length) {
        List<Object[]> all = new ArrayList<>();
        all.add(new Object[0]);
        for (int i = 0; i < length; i++) {
            List<Object[]> longer = new ArrayList<>();
            for (Object[] tuple : all) {
                for (int number : NUMBERS) {
                    Object[] next = Arrays.copyOf(tuple, i + 1);
                    next[i] = number;
                    longer.add(next);
                }
            }
            all = longer;
        }
        return all;
    }

    private static Throwable thrown(SquaringClock clock, Method method, Object[] numbers) {
        try {
            method.invoke(clock, numbers);
            return null;
        } catch (InvocationTargetException e) {
            return e.getCause();
        } catch (IllegalAccessException e) {
            return e;
        }
    }

    private static void theLastCallAnswersAsTheFirst() {
        for (int d : new int[] {7, 49999}) {
            SquaringClock clock = new SquaringClock();
            int calls = fill(clock, d);
            String first = asked(clock);
            calls += 6;
            while (calls + 6 <= MOST_CALLS) {
                TRIAL.expect("d " + d + ", after " + calls + " calls", asked(clock), first);
                calls += 6;
            }
            TRIAL.expect("d " + d + ": the calls that were made", calls, MOST_CALLS);
        }
    }

    /** Dear calls, so many that those up to the 512th come in sixes: the answer tells how many. */
    private static int fill(SquaringClock clock, int d) {
        clock.discriminant(d);
        for (int i = 0; i < 16; i++) {
            Trial.book(clock, 500);
        }
        for (int which = 0; which < 3; which++) {
            Trial.take(clock, 15, which);
        }
        return 1 + 16 * 4 + 3 * 3;
    }

    private static String asked(SquaringClock clock) {
        clock.raise(1, Integer.MAX_VALUE, 1);
        clock.put(1, clock.form(15, 1, 0), clock.form(15, 1, 1));
        return clock.test(15) + " " + clock.verify(0);
    }

    private static void callsMakeNoObjects() {
        com.sun.management.ThreadMXBean threads =
            (com.sun.management.ThreadMXBean) ManagementFactory.getThreadMXBean();
        SquaringClock clock = new SquaringClock();
        threads.getCurrentThreadAllocatedBytes();
        long before = threads.getCurrentThreadAllocatedBytes();
        int calls = fill(clock, 49999);
        int answers = 0;
        while (calls + 6 <= MOST_CALLS) {
            clock.multiply(0, 1, 2);
            clock.raise(2, Integer.MAX_VALUE, 2);
            clock.reduce(2, 2);
            answers += clock.test(15) + clock.order(1000) + clock.classes();
            calls += 6;
        }
        long room = threads.getCurrentThreadAllocatedBytes() - before;
        TRIAL.expect("answers " + answers + ", room " + room + " bytes", room <= MOST_ROOM && answers > 0, true);
    }

    private static void clocksKnowNothingOfEachOther() {
        Trial.Deed first = Trial.booked(49999, 30, 2).then(clock -> clock.begin(7));
        Trial.Deed second = Trial.booked(23, 3, 1).then(clock -> clock.put(0, 2, 1));
        String firstAlone = Trial.story(Trial.made(first));
        String secondAlone = Trial.story(Trial.made(second));
        SquaringClock one = Trial.made(first);
        SquaringClock other = Trial.made(second);
        TRIAL.expect("the first of two", Trial.story(one), firstAlone);
        TRIAL.expect("the second of two", Trial.story(other), secondAlone);
    }
}
