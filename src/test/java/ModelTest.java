import java.math.BigInteger;
import java.util.ArrayList;
import java.util.Arrays;
import java.util.List;
import java.util.Random;

/**
 * Long runs of calls, right and wrong ones, on a clock and on a model that follows the document's definitions
 * word by word; every now and then all that can be seen of both is compared.
 */
public final class ModelTest {
    private static final int RUNS = 400;
    /** The look at all that can be seen takes up to 226 calls more, and a clock is good for 512. */
    private static final int CALLS = 286;
    private static final int CALLS_TO_A_LOOK = 10;
    private static final String STATE = "IllegalStateException";
    private static final String ARGUMENT = "IllegalArgumentException";
    private static final String INDEX = "IndexOutOfBoundsException";
    private static final String ELEMENT = "NoSuchElementException";
    private static final int[] SOME_D = {7, 15, 23, 39, 47, 55, 63, 71, 135, 175, 207, 343, 375, 567, 1575, 2047, 3375,
        14175, 49999, 50007, 399999, 15030015, 99999999, 999999999, 999999991};
    private static final String[] NAMES = {"discriminant", "begin", "work", "prove", "publish", "drop", "rounds", "told",
        "form", "verify", "put", "buffer", "reduce", "multiply", "raise", "test", "order", "classes"};
    private static final int[] WEIGHTS = {1, 12, 14, 14, 10, 1, 1, 4, 4, 3, 14, 4, 6, 8, 6, 12, 1, 1};

    public static void main(String[] args) {
        checkEveryProduct();
        checkEveryPut();
        Random random = new Random(20261115);
        int[] answers = new int[4];
        for (int run = 0; run < RUNS; run++) {
            oneRun(run, random, answers);
        }
        for (int i = 0; i < answers.length; i++) {
            if (answers[i] == 0) {
                fail("the runs never saw test answer " + i);
            }
        }
        System.out.println("clock and model agree, test answered 0 1 2 3: " + Arrays.toString(answers));
    }

    private static void oneRun(int run, Random random, int[] answers) {
        SquaringClock clock = new SquaringClock();
        Model model = new Model();
        StringBuilder log = new StringBuilder();
        List<String> names = new ArrayList<>();
        List<long[]> ins = new ArrayList<>();
        boolean dear = run % 20 == 0;
        for (int i = 0; i < CALLS; i++) {
            String name = i == 5 ? "discriminant" : pick(random);
            long[] in = arguments(name, random, model, dear);
            if (name.equals("put") && random.nextInt(3) > 0) {
                in = takenFromBook(random, model, in);
            } else if (name.equals("put") && model.d > 0 && random.nextBoolean()) {
                in = farFromReduced(random, model, in);
            }
            String got = call(clock, name, in);
            String want = model.call(name, in);
            log.append(name).append(Arrays.toString(in)).append(" -> ").append(want).append('\n');
            if (!got.equals(want)) {
                fail(log + "answered " + got);
            }
            if (name.equals("test") && want.length() == 1) {
                answers[want.charAt(0) - '0']++;
            }
            names.add(name);
            ins.add(in);
            if (random.nextInt(CALLS_TO_A_LOOK) == 0) {
                compareAll(twin(names, ins), model, log);
            }
        }
        compareAll(clock, model, log);
    }

    /** A clock with the same calls behind it, so that a look at it does not wear out the first one. */
    private static SquaringClock twin(List<String> names, List<long[]> ins) {
        SquaringClock clock = new SquaringClock();
        for (int i = 0; i < names.size(); i++) {
            call(clock, names.get(i), ins.get(i));
        }
        return clock;
    }

    private static void compareAll(SquaringClock clock, Model model, StringBuilder log) {
        for (int round = -1; round <= model.book.size(); round++) {
            for (int what = 0; what < 3; what++) {
                compare(clock, model, log, "told", round, what);
            }
            for (int which = 0; which < 9; which++) {
                compare(clock, model, log, "form", round, which / 3, which % 3);
            }
        }
        for (int i = 0; i < 9; i++) {
            compare(clock, model, log, "buffer", i / 3, i % 3);
        }
        compare(clock, model, log, "rounds");
    }

    private static void compare(SquaringClock clock, Model model, StringBuilder log, String name, long... in) {
        String got = call(clock, name, in);
        String want = model.call(name, in);
        if (!got.equals(want)) {
            fail(log + "then " + name + Arrays.toString(in) + " answered " + got + ", due is " + want);
        }
    }

    private static String pick(Random random) {
        int sum = Arrays.stream(WEIGHTS).sum();
        int at = random.nextInt(sum);
        int i = 0;
        while (at >= WEIGHTS[i]) {
            at -= WEIGHTS[i];
            i++;
        }
        return NAMES[i];
    }

    private static long[] arguments(String name, Random random, Model model, boolean dear) {
        boolean odd = random.nextInt(8) == 0;
        int size = model.book.size();
        switch (name) {
            case "discriminant":
                return new long[] {odd ? edge(random) : random.nextBoolean() ? SOME_D[random.nextInt(SOME_D.length)]
                    : 7 + 8L * random.nextInt(random.nextBoolean() ? 200 : 125000000)};
            case "begin":
                return new long[] {odd ? edge(random) : 1 + random.nextInt(dear ? 500 : 40)};
            case "work":
            case "prove":
                return new long[] {odd ? edge(random) : 1 + random.nextInt(dear ? 500 : 60)};
            case "told":
                return new long[] {random.nextInt(size + 4) - 2, random.nextInt(5) - 1};
            case "form":
                return new long[] {random.nextInt(size + 4) - 2, random.nextInt(5) - 1, random.nextInt(5) - 1};
            case "verify":
            case "test":
                return new long[] {odd ? edge(random) : random.nextInt(size + 1)};
            case "put":
                return new long[] {index(random, odd), odd ? edge(random) : 1 + random.nextInt(60),
                    odd && random.nextBoolean() ? edge(random) : 1 + 2 * (random.nextInt(120) - 60)};
            case "buffer":
            case "reduce":
                return new long[] {index(random, odd), index(random, odd)};
            case "multiply":
                return new long[] {index(random, odd), index(random, odd), index(random, odd)};
            case "raise":
                return new long[] {index(random, odd), odd ? edge(random) : random.nextInt(1 << (1 + random.nextInt(30))),
                    index(random, odd)};
            case "order":
                return new long[] {odd ? edge(random) : 1 + random.nextInt(dear ? 1000 : 60)};
            default:
                return new long[0];
        }
    }

    private static long index(Random random, boolean odd) {
        return odd ? random.nextInt(5) - 1 : random.nextInt(3);
    }

    private static long edge(Random random) {
        int[] edges = {Integer.MIN_VALUE, -100001, -100000, -99999, -2, -1, 0, 1, 2, 3, 6, 7, 8, 15, 16, 17, 499, 500, 501,
            999, 1000, 1001, 99999, 100000, 100001, 999999999, 1000000000, 1000000007, Integer.MAX_VALUE};
        return edges[random.nextInt(edges.length)];
    }

    /** Forms of a booked round, or forms alike to them, so that test has something to accept and to refuse. */
    private static long[] takenFromBook(Random random, Model model, long[] in) {
        if (model.book.isEmpty()) {
            return in;
        }
        int i = random.nextInt(3);
        int last = model.book.size() - 1;
        Model.Round round = model.book.get(random.nextInt(4) > 0 ? last : random.nextInt(last + 1));
        long[] form = (i == 0 ? round.x : i == 1 ? round.y : round.proof);
        int shift = random.nextInt(6) == 0 ? random.nextInt(5) - 2 : 0;
        return new long[] {i, form[0], form[1] + 2 * shift * form[0]};
    }

    /** A form with numbers as great as put takes them. */
    private static long[] farFromReduced(Random random, Model model, long[] in) {
        long[] form = model.power(model.generator(), BigInteger.valueOf(random.nextInt(1000)));
        long[] best = form;
        for (int i = 0; i < 40; i++) {
            form = random.nextBoolean() ? Model.turn(form) : Model.shift(form, random.nextInt(20));
            if (form[0] > 100000 || Math.abs(form[1]) > 100000) {
                form = best;
            } else if (form[0] + Math.abs(form[1]) > best[0] + Math.abs(best[1])) {
                best = form;
            }
        }
        return new long[] {in[0], best[0], best[1]};
    }

    /** All pairs of reduced forms for many small discriminants, the ones with square factors among them. */
    private static void checkEveryProduct() {
        for (int d = 7; d < 2500; d += d < 700 ? 8 : 56) {
            Model model = new Model();
            model.call("discriminant", new long[] {d});
            List<long[]> forms = model.allReduced();
            SquaringClock counting = new SquaringClock();
            counting.discriminant(d);
            if (counting.classes() != forms.size()) {
                fail("classes for " + d + " are not " + forms.size());
            }
            for (long[] one : forms) {
                for (long[] other : forms) {
                    checkProduct(d, one, other, model.product(one, other));
                }
            }
        }
    }

    private static void checkProduct(int d, long[] one, long[] other, long[] want) {
        SquaringClock clock = new SquaringClock();
        clock.discriminant(d);
        clock.put(0, (int) one[0], (int) one[1]);
        clock.put(1, (int) other[0], (int) other[1]);
        clock.multiply(0, 1, 2);
        for (int part = 0; part < 3; part++) {
            if (clock.buffer(2, part) != want[part]) {
                fail("product for " + d + " of " + Arrays.toString(one) + " and " + Arrays.toString(other));
            }
        }
    }

    private static void checkEveryPut() {
        for (int d : new int[] {7, 63, 175, 567, 1575, 14175}) {
            for (int a = 0; a <= 70; a++) {
                for (int b = -90; b <= 90; b++) {
                    SquaringClock clock = new SquaringClock();
                    Model model = new Model();
                    long[] first = {d};
                    long[] second = {1, a, b};
                    call(clock, "discriminant", first);
                    model.call("discriminant", first);
                    StringBuilder log = new StringBuilder("put " + d + " " + a + " " + b + " ");
                    compare(clock, model, log, "put", second);
                    compare(clock, model, log, "reduce", 1, 2);
                    compareAll(clock, model, log);
                }
            }
        }
    }

    private static String call(SquaringClock clock, String name, long[] in) {
        int[] v = new int[3];
        for (int i = 0; i < in.length; i++) {
            v[i] = (int) in[i];
        }
        try {
            switch (name) {
                case "discriminant": clock.discriminant(v[0]); return "void";
                case "begin": return "" + clock.begin(v[0]);
                case "work": return "" + clock.work(v[0]);
                case "prove": return "" + clock.prove(v[0]);
                case "publish": return "" + clock.publish();
                case "drop": return "" + clock.drop();
                case "rounds": return "" + clock.rounds();
                case "told": return "" + clock.told(v[0], v[1]);
                case "form": return "" + clock.form(v[0], v[1], v[2]);
                case "verify": return "" + clock.verify(v[0]);
                case "put": clock.put(v[0], v[1], v[2]); return "void";
                case "buffer": return "" + clock.buffer(v[0], v[1]);
                case "reduce": clock.reduce(v[0], v[1]); return "void";
                case "multiply": clock.multiply(v[0], v[1], v[2]); return "void";
                case "raise": clock.raise(v[0], v[1], v[2]); return "void";
                case "test": return "" + clock.test(v[0]);
                case "order": return "" + clock.order(v[0]);
                default: return "" + clock.classes();
            }
        } catch (RuntimeException e) {
            return e.getClass().getSimpleName();
        }
    }

    private static void fail(String text) {
        System.out.println(text);
        System.exit(1);
    }

    /** The document's words, without care for speed. */
    private static final class Model {
        static final class Round {
            long t;
            long exponent;
            long prime;
            long squared;
            long steps;
            long[] x;
            long[] y;
            long[] proof;
        }

        long d = 0;
        final List<Round> book = new ArrayList<>();
        Round running = null;
        final long[][] buffer = new long[3][];

        String call(String name, long[] v) {
            if (d == 0 && !List.of("discriminant", "rounds", "drop").contains(name)) {
                return STATE;
            }
            switch (name) {
                case "discriminant": return discriminant(v[0]);
                case "begin": return begin(v[0]);
                case "work": return work(v[0]);
                case "prove": return prove(v[0]);
                case "publish": return publish();
                case "drop": return drop();
                case "rounds": return "" + book.size();
                case "told": return told(v[0], v[1]);
                case "form": return form(v[0], v[1], v[2]);
                case "verify": return verify(v[0]);
                case "put": return put(v[0], v[1], v[2]);
                case "buffer": return buffer(v[0], v[1]);
                case "reduce": return reduce(v[0], v[1]);
                case "multiply": return multiply(v[0], v[1], v[2]);
                case "raise": return raise(v[0], v[1], v[2]);
                case "test": return test(v[0]);
                case "order": return order(v[0]);
                default: return d > 50000 ? ARGUMENT : "" + allReduced().size();
            }
        }

        private String discriminant(long newD) {
            if (newD < 7 || newD > 1000000000 || newD % 8 != 7) {
                return ARGUMENT;
            }
            if (running != null) {
                return STATE;
            }
            d = newD;
            book.clear();
            Arrays.fill(buffer, null);
            return "void";
        }

        private String begin(long t) {
            if (t < 1 || t > 500) {
                return ARGUMENT;
            }
            if (running != null || book.size() == 16) {
                return STATE;
            }
            int h = mix(mix(1, d), book.size());
            if (!book.isEmpty()) {
                long[] y = book.get(book.size() - 1).y;
                h = mix(mix(h, y[0]), y[1]);
            }
            running = new Round();
            running.t = t;
            running.exponent = 1 + Math.floorMod(h, 65536);
            running.x = power(generator(), BigInteger.valueOf(running.exponent));
            running.y = running.x;
            running.proof = unit();
            return "" + running.exponent;
        }

        private String work(long n) {
            if (n < 1 || n > 500) {
                return ARGUMENT;
            }
            if (running == null || running.squared == running.t) {
                return STATE;
            }
            for (long i = 0; i < n && running.squared < running.t; i++) {
                running.y = product(running.y, running.y);
                running.squared++;
            }
            if (running.squared == running.t) {
                running.prime = primeOf(running.x, running.y, running.t);
            }
            return "" + (running.t - running.squared);
        }

        /** After s steps the proof is the power with 2^s / prime, rounded down. */
        private String prove(long n) {
            if (n < 1 || n > 500) {
                return ARGUMENT;
            }
            if (running == null || running.squared < running.t || running.steps == running.t) {
                return STATE;
            }
            running.steps = Math.min(running.t, running.steps + n);
            BigInteger twos = BigInteger.TWO.pow((int) running.steps);
            running.proof = power(running.x, twos.divide(BigInteger.valueOf(running.prime)));
            return "" + (running.t - running.steps);
        }

        private String publish() {
            if (running == null || running.squared < running.t || running.steps < running.t) {
                return STATE;
            }
            book.add(running);
            running = null;
            return "" + book.size();
        }

        private String drop() {
            boolean was = running != null;
            running = null;
            return "" + was;
        }

        private Round round(long round) {
            if (round == -1) {
                return running;
            }
            return round >= 0 && round < book.size() ? book.get((int) round) : null;
        }

        private String told(long round, long what) {
            Round one = round(round);
            if (one == null || what < 0 || what > 2) {
                return INDEX;
            }
            return "" + (what == 0 ? one.t : what == 1 ? one.exponent : one.prime);
        }

        private String form(long round, long which, long part) {
            Round one = round(round);
            if (one == null || which < 0 || which > 2 || part < 0 || part > 2) {
                return INDEX;
            }
            return "" + (which == 0 ? one.x : which == 1 ? one.y : one.proof)[(int) part];
        }

        private String verify(long round) {
            if (round == -1 || round(round) == null) {
                return INDEX;
            }
            Round one = round(round);
            return "" + (Arrays.equals(one.x, power(generator(), BigInteger.valueOf(one.exponent)))
                && holds(one.x, one.y, one.proof, one.prime, one.t));
        }

        private boolean holds(long[] x, long[] y, long[] proof, long prime, long t) {
            BigInteger p = BigInteger.valueOf(prime);
            return Arrays.equals(y, product(power(proof, p), power(x, BigInteger.TWO.pow((int) t).mod(p))));
        }

        private String put(long i, long a, long b) {
            if (outside(i)) {
                return INDEX;
            }
            if (a < 1 || a > 100000 || b < -100000 || b > 100000 || (b * b + d) % (4 * a) != 0) {
                return ARGUMENT;
            }
            long c = (b * b + d) / (4 * a);
            if (gcd(gcd(a, b), c) != 1) {
                return ARGUMENT;
            }
            buffer[(int) i] = new long[] {a, b, c};
            return "void";
        }

        private String buffer(long i, long part) {
            if (outside(i) || outside(part)) {
                return INDEX;
            }
            return buffer[(int) i] == null ? ELEMENT : "" + buffer[(int) i][(int) part];
        }

        private String reduce(long i, long k) {
            if (outside(i) || outside(k)) {
                return INDEX;
            }
            if (buffer[(int) i] == null) {
                return ELEMENT;
            }
            buffer[(int) k] = reduced(buffer[(int) i]);
            return "void";
        }

        private String multiply(long i, long j, long k) {
            if (outside(i) || outside(j) || outside(k)) {
                return INDEX;
            }
            if (buffer[(int) i] == null || buffer[(int) j] == null) {
                return ELEMENT;
            }
            buffer[(int) k] = product(buffer[(int) i], buffer[(int) j]);
            return "void";
        }

        private String raise(long i, long n, long k) {
            if (outside(i) || outside(k)) {
                return INDEX;
            }
            if (n < 0) {
                return ARGUMENT;
            }
            if (buffer[(int) i] == null) {
                return ELEMENT;
            }
            buffer[(int) k] = power(buffer[(int) i], BigInteger.valueOf(n));
            return "void";
        }

        private String test(long round) {
            if (round == -1 || round(round) == null) {
                return INDEX;
            }
            if (buffer[0] == null || buffer[1] == null || buffer[2] == null) {
                return ELEMENT;
            }
            Round one = round(round);
            if (!Arrays.equals(buffer[0], one.x)) {
                return "1";
            }
            if (!isReduced(buffer[1]) || !isReduced(buffer[2])) {
                return "2";
            }
            long prime = primeOf(buffer[0], buffer[1], one.t);
            return holds(buffer[0], buffer[1], buffer[2], prime, one.t) ? "0" : "3";
        }

        private String order(long most) {
            if (most < 1 || most > 1000) {
                return ARGUMENT;
            }
            long[] power = unit();
            for (long n = 1; n <= most; n++) {
                power = product(power, generator());
                if (Arrays.equals(power, unit())) {
                    return "" + n;
                }
            }
            return "0";
        }

        /** Every a and b that a reduced form can have. */
        List<long[]> allReduced() {
            List<long[]> all = new ArrayList<>();
            for (long a = 1; 3 * a * a <= d; a++) {
                for (long b = -a; b <= a; b++) {
                    if ((b * b + d) % (4 * a) == 0) {
                        long[] form = {a, b, (b * b + d) / (4 * a)};
                        if (isReduced(form) && gcd(gcd(a, b), form[2]) == 1) {
                            all.add(form);
                        }
                    }
                }
            }
            return all;
        }

        private static boolean outside(long i) {
            return i < 0 || i > 2;
        }

        private static long gcd(long p, long q) {
            return BigInteger.valueOf(p).gcd(BigInteger.valueOf(q)).longValueExact();
        }

        private static boolean isReduced(long[] f) {
            return -f[0] < f[1] && f[1] <= f[0] && f[0] <= f[2] && !(f[0] == f[2] && f[1] < 0);
        }

        private long[] unit() {
            return new long[] {1, 1, (1 + d) / 4};
        }

        private long[] generator() {
            return reduced(new long[] {2, 1, (1 + d) / 8});
        }

        private static long[] reduced(long[] f) {
            return reduced(BigInteger.valueOf(f[0]), BigInteger.valueOf(f[1]), BigInteger.valueOf(f[2]));
        }

        private static long[] reduced(BigInteger a, BigInteger b, BigInteger c) {
            BigInteger discriminant = b.multiply(b).subtract(a.multiply(c).shiftLeft(2));
            while (true) {
                BigInteger twoA = a.shiftLeft(1);
                b = b.mod(twoA);
                if (b.compareTo(a) > 0) {
                    b = b.subtract(twoA);
                }
                c = b.multiply(b).subtract(discriminant).divide(a.shiftLeft(2));
                long[] form = {a.longValueExact(), b.longValueExact(), c.longValueExact()};
                if (isReduced(form)) {
                    return form;
                }
                BigInteger oldA = a;
                a = c;
                b = b.negate();
                c = oldA;
            }
        }

        /** A form alike to the first one whose a has no divisor in common with that of the second; then a common b. */
        long[] product(long[] first, long[] second) {
            long[] one = reduced(first);
            long[] other = reduced(second);
            long f = other[0];
            long[] p = coprime(one, f);
            BigInteger a = BigInteger.valueOf(p[0]);
            BigInteger big = BigInteger.valueOf(f);
            BigInteger step = BigInteger.valueOf((other[1] - p[1]) / 2);
            BigInteger k = f == 1 ? BigInteger.ZERO : step.multiply(a.modInverse(big)).mod(big);
            BigInteger b = BigInteger.valueOf(p[1]).add(a.multiply(k).shiftLeft(1));
            BigInteger[] c = b.multiply(b).add(BigInteger.valueOf(d)).divideAndRemainder(a.multiply(big).shiftLeft(2));
            if (c[1].signum() != 0) {
                throw new AssertionError("the model found no common b");
            }
            return reduced(a.multiply(big), b, c[0]);
        }

        /** By the document's steps alone: b + 2 * a some times, turned, until a has no divisor in common with f. */
        private static long[] coprime(long[] form, long f) {
            if (gcd(form[0], f) == 1) {
                return form;
            }
            for (long q = 0; q < 100; q++) {
                long[] turned = turn(shift(form, q));
                if (gcd(turned[0], f) == 1) {
                    return turned;
                }
                for (long s = 0; s < 100; s++) {
                    long[] candidate = turn(shift(turned, s));
                    if (gcd(candidate[0], f) == 1) {
                        return candidate;
                    }
                }
            }
            throw new AssertionError("the model found no such form");
        }

        private static long[] shift(long[] f, long times) {
            long[] g = f;
            for (long i = 0; i < times; i++) {
                g = new long[] {g[0], g[1] + 2 * g[0], g[0] + g[1] + g[2]};
            }
            return g;
        }

        private static long[] turn(long[] f) {
            return new long[] {f[2], -f[1], f[0]};
        }

        private long[] power(long[] form, BigInteger n) {
            long[] power = unit();
            for (int bit = n.bitLength() - 1; bit >= 0; bit--) {
                power = product(power, power);
                if (n.testBit(bit)) {
                    power = product(power, form);
                }
            }
            return power;
        }

        private static int mix(int h, long v) {
            h = (h ^ (int) v) * 0x5BD1E995;
            return h ^ (h >>> 15);
        }

        private static long primeOf(long[] x, long[] y, long t) {
            int h = mix(mix(mix(mix(mix(2, x[0]), x[1]), y[0]), y[1]), t);
            long n = 3 + Math.floorMod(h, 65536);
            while (!BigInteger.valueOf(n).isProbablePrime(50)) {
                n++;
            }
            return n;
        }
    }
}
