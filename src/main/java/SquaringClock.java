import java.util.NoSuchElementException;

/**
 * A clock that nobody can hurry: rounds of squarings one after the other in the group of the forms of a
 * discriminant, each with a proof, in a book that anybody can look over.
 */
public final class SquaringClock {
    public static final int NONE = -1;

    private static final int LEAST_D = 7;
    private static final int MOST_D = 1000000000;
    private static final int MOST_D_COUNTED = 50000;
    private static final int MOST_ROUNDS = 16;
    private static final int MOST_SQUARINGS = 500;
    private static final int MOST_ORDER = 1000;
    private static final int BUFFER_SIZE = 3;
    private static final int PARTS = 3;
    private static final int MOST_PUT = 100000;
    private static final int LOW_BITS = 0xFFFF;
    private static final int MIXER = 0x5BD1E995;
    /** Far above what Euclid's steps or a reduction need on numbers of 64 bits. */
    private static final int MOST_STEPS = 1000;
    /** Far above the widest gap between primes of this size. */
    private static final int MOST_GAP = 1000;

    private final Group group;
    private final Round[] book;
    private final Round current;
    private final Form[] kept;
    private int booked;
    private boolean running;

    public SquaringClock() {
        group = new Group();
        current = new Round();
        book = new Round[MOST_ROUNDS];
        for (int i = 0; i < MOST_ROUNDS; i++) {
            book[i] = new Round();
        }
        kept = new Form[BUFFER_SIZE];
        for (int i = 0; i < BUFFER_SIZE; i++) {
            kept[i] = new Form();
        }
        booked = 0;
        running = false;
    }

    public void discriminant(int d) throws IllegalArgumentException, IllegalStateException {
        if (d < LEAST_D || d > MOST_D || d % 8 != 7) {
            throw new IllegalArgumentException();
        }
        if (running) {
            throw new IllegalStateException();
        }
        group.setUp(d);
        booked = 0;
        for (int i = 0; i < BUFFER_SIZE; i++) {
            kept[i].clear();
        }
    }

    public int begin(int t) throws IllegalStateException, IllegalArgumentException {
        needDiscriminant();
        // The promises of begin, work and prove name a wrong argument before a wrong state.
        needCount(t, MOST_SQUARINGS);
        if (running || booked >= MOST_ROUNDS) {
            throw new IllegalStateException();
        }
        current.start(group, t, nextExponent());
        running = true;
        return current.exponent;
    }

    public int work(int n) throws IllegalStateException, IllegalArgumentException {
        needDiscriminant();
        needCount(n, MOST_SQUARINGS);
        if (!running || current.squaringsLeft == 0) {
            throw new IllegalStateException();
        }
        current.makeSquarings(group, n);
        return current.squaringsLeft;
    }

    public int prove(int n) throws IllegalStateException, IllegalArgumentException {
        needDiscriminant();
        needCount(n, MOST_SQUARINGS);
        if (!running || current.squaringsLeft > 0 || current.stepsLeft == 0) {
            throw new IllegalStateException();
        }
        current.makeSteps(group, n);
        return current.stepsLeft;
    }

    public int publish() throws IllegalStateException {
        needDiscriminant();
        // A round is begun only while the book has room; asking again keeps the index safe here.
        if (!running || current.squaringsLeft > 0 || current.stepsLeft > 0 || booked >= MOST_ROUNDS) {
            throw new IllegalStateException();
        }
        book[booked].copyDone(current);
        booked++;
        running = false;
        return booked;
    }

    public boolean drop() {
        boolean wasRunning = running;
        running = false;
        return wasRunning;
    }

    public int rounds() {
        return booked;
    }

    public int told(int round, int what) throws IllegalStateException, IndexOutOfBoundsException {
        needDiscriminant();
        Round one = anyRound(round);
        switch (what) {
            case 0:
                return one.squarings;
            case 1:
                return one.exponent;
            case 2:
                return one.prime;
            default:
                throw new IndexOutOfBoundsException();
        }
    }

    public int form(int round, int which, int part) throws IllegalStateException, IndexOutOfBoundsException {
        needDiscriminant();
        Round one = anyRound(round);
        needIndex(part, PARTS);
        switch (which) {
            case 0:
                return (int) one.x.part(part);
            case 1:
                return (int) one.y.part(part);
            case 2:
                return (int) one.proof.part(part);
            default:
                throw new IndexOutOfBoundsException();
        }
    }

    public boolean verify(int round) throws IllegalStateException, IndexOutOfBoundsException {
        needDiscriminant();
        Round one = bookedRound(round);
        return group.isGeneratorPower(one.x, one.exponent)
            && group.isProven(one.x, one.y, one.proof, one.prime, one.squarings);
    }

    public void put(int i, int a, int b)
            throws IllegalStateException, IndexOutOfBoundsException, IllegalArgumentException {
        needDiscriminant();
        needIndex(i, BUFFER_SIZE);
        if (a < 1 || a > MOST_PUT || b < -MOST_PUT || b > MOST_PUT || !group.hasForm(a, b)) {
            throw new IllegalArgumentException();
        }
        kept[i].set(a, b, group.lastPart(a, b));
    }

    public long buffer(int i, int part)
            throws IllegalStateException, IndexOutOfBoundsException, NoSuchElementException {
        needDiscriminant();
        needIndex(i, BUFFER_SIZE);
        needIndex(part, PARTS);
        needKept(i);
        return kept[i].part(part);
    }

    public void reduce(int i, int k)
            throws IllegalStateException, IndexOutOfBoundsException, NoSuchElementException {
        needDiscriminant();
        needIndex(i, BUFFER_SIZE);
        needIndex(k, BUFFER_SIZE);
        needKept(i);
        kept[k].copy(kept[i]);
        kept[k].settle();
    }

    public void multiply(int i, int j, int k)
            throws IllegalStateException, IndexOutOfBoundsException, NoSuchElementException {
        needDiscriminant();
        needIndex(i, BUFFER_SIZE);
        needIndex(j, BUFFER_SIZE);
        needIndex(k, BUFFER_SIZE);
        needKept(i);
        needKept(j);
        group.product(kept[i], kept[j], kept[k]);
    }

    public void raise(int i, int n, int k)
            throws IllegalStateException, IndexOutOfBoundsException, IllegalArgumentException,
            NoSuchElementException {
        needDiscriminant();
        needIndex(i, BUFFER_SIZE);
        needIndex(k, BUFFER_SIZE);
        if (n < 0) {
            throw new IllegalArgumentException();
        }
        needKept(i);
        group.power(kept[i], n, kept[k]);
    }

    public int test(int round) throws IllegalStateException, IndexOutOfBoundsException, NoSuchElementException {
        needDiscriminant();
        Round one = bookedRound(round);
        for (int i = 0; i < BUFFER_SIZE; i++) {
            needKept(i);
        }
        Form x = kept[0];
        Form y = kept[1];
        Form proof = kept[2];
        if (!x.isSame(one.x)) {
            return 1;
        }
        if (!y.isReduced() || !proof.isReduced()) {
            return 2;
        }
        int prime = primeOf(x, y, one.squarings);
        return group.isProven(x, y, proof, prime, one.squarings) ? 0 : 3;
    }

    public int order(int most) throws IllegalStateException, IllegalArgumentException {
        needDiscriminant();
        needCount(most, MOST_ORDER);
        return group.generatorOrder(most);
    }

    public int classes() throws IllegalStateException, IllegalArgumentException {
        needDiscriminant();
        if (group.d > MOST_D_COUNTED) {
            throw new IllegalArgumentException();
        }
        return group.countReduced();
    }

    private void needDiscriminant() {
        if (group.d == 0) {
            throw new IllegalStateException();
        }
    }

    private static void needCount(int n, int most) {
        if (n < 1 || n > most) {
            throw new IllegalArgumentException();
        }
    }

    private static void needIndex(int i, int size) {
        if (i < 0 || i >= size) {
            throw new IndexOutOfBoundsException();
        }
    }

    /** i is 0 .. 2 already. */
    private void needKept(int i) {
        if (kept[i].isNone()) {
            throw new NoSuchElementException();
        }
    }

    private Round anyRound(int round) {
        return round == NONE && running ? current : bookedRound(round);
    }

    private Round bookedRound(int round) {
        needIndex(round, booked);
        return book[round];
    }

    private int nextExponent() {
        int h = mix(1, (int) group.d);
        h = mix(h, booked);
        if (booked > 0) {
            h = mixForm(h, book[booked - 1].y);
        }
        return 1 + (h & LOW_BITS);
    }

    private static int primeOf(Form x, Form y, int squarings) {
        int h = mixForm(mixForm(2, x), y);
        h = mix(h, squarings);
        return leastPrimeFrom(3 + (h & LOW_BITS));
    }

    private static int mixForm(int h, Form form) {
        return mix(mix(h, (int) form.a), (int) form.b);
    }

    private static int mix(int h, int v) {
        int mixed = (h ^ v) * MIXER;
        return mixed ^ (mixed >>> 15);
    }

    private static int leastPrimeFrom(int start) {
        int candidate = start;
        for (int tries = 0; tries < MOST_GAP && !isPrime(candidate); tries++) {
            candidate++;
        }
        return candidate;
    }

    /** n is above 1. */
    private static boolean isPrime(int n) {
        for (int factor = 2; factor * factor <= n; factor++) {
            if (n % factor == 0) {
                return false;
            }
        }
        return true;
    }

    private static long commonDivisor(long p, long q) {
        long divisor = Math.abs(p);
        long rest = Math.abs(q);
        for (int step = 0; step < MOST_STEPS && rest != 0; step++) {
            long next = divisor % rest;
            divisor = rest;
            rest = next;
        }
        return divisor;
    }

    /** A place for a form that is filled again and again, so that a call makes no objects; a is 0 when it holds none. */
    private static final class Form {
        long a;
        long b;
        long c;

        void set(long newA, long newB, long newC) {
            a = newA;
            b = newB;
            c = newC;
        }

        void copy(Form other) {
            set(other.a, other.b, other.c);
        }

        void clear() {
            set(0, 0, 0);
        }

        boolean isNone() {
            return a == 0;
        }

        boolean isSame(Form other) {
            return a == other.a && b == other.b && c == other.c;
        }

        boolean isReduced() {
            return -a < b && b <= a && a <= c && (a != c || b >= 0);
        }

        long part(int index) {
            return index == 0 ? a : index == 1 ? b : c;
        }

        /** Becomes the reduced form that is alike. */
        void settle() {
            centre();
            for (int step = 0; step < MOST_STEPS && a > c; step++) {
                set(c, -b, a);
                centre();
            }
            if (a == c && b < 0) {
                b = -b;
            }
        }

        /** Brings b between -a and a by so many steps of 2 * a at once. */
        private void centre() {
            if (a < 1) {
                return;
            }
            long steps = Math.floorDiv(a - b, 2 * a);
            c += steps * (b + steps * a);
            b += steps * 2 * a;
        }
    }

    /** The common divisor of two numbers, and how often each is taken to make it. */
    private static final class Combination {
        long divisor;
        long first;
        long second;

        void solve(long p, long q) {
            divisor = p;
            first = 1;
            second = 0;
            long rest = q;
            long restFirst = 0;
            long restSecond = 1;
            for (int step = 0; step < MOST_STEPS && rest != 0; step++) {
                long quotient = divisor / rest;
                long next = divisor - quotient * rest;
                divisor = rest;
                rest = next;
                next = first - quotient * restFirst;
                first = restFirst;
                restFirst = next;
                next = second - quotient * restSecond;
                second = restSecond;
                restSecond = next;
            }
            if (divisor < 0) {
                divisor = -divisor;
                first = -first;
                second = -second;
            }
        }
    }

    /** The forms of one discriminant; d is 0 as long as there is none. */
    private static final class Group {
        long d;
        final Form unit = new Form();
        final Form generator = new Form();
        private final Form base = new Form();
        private final Form left = new Form();
        private final Form right = new Form();
        private final Combination ofFirstParts = new Combination();
        private final Combination ofAll = new Combination();

        void setUp(int newD) {
            d = newD;
            unit.set(1, 1, (1 + d) / 4);
            generator.set(2, 1, (1 + d) / 8);
            generator.settle();
        }

        /** a is above 0. */
        boolean hasForm(int a, int b) {
            long divisor = 4L * Math.max(1, a);
            if (((long) b * b + d) % divisor != 0) {
                return false;
            }
            return commonDivisor(commonDivisor(a, b), lastPart(a, b)) == 1;
        }

        /** c of the form with a (above 0) and b. */
        long lastPart(long a, long b) {
            return (b * b + d) / (4 * Math.max(1, a));
        }

        /** The product of any two forms; reducing them first keeps all numbers within a long. */
        void product(Form one, Form other, Form into) {
            left.copy(one);
            left.settle();
            right.copy(other);
            right.settle();
            compose(left, right, into);
        }

        /** The product of two reduced forms (a up to some 18257); into may be one of them. */
        void compose(Form one, Form other, Form into) {
            // b is odd in every form, as the discriminant is odd.
            long middle = (one.b + other.b) / 2;
            ofFirstParts.solve(one.a, other.a);
            ofAll.solve(ofFirstParts.divisor, middle);
            // The divisor is above 0 because one.a is; the max lets that be seen where it divides.
            long shared = Math.max(1, ofAll.divisor);
            long oneShare = Math.max(1, one.a / shared);
            long otherShare = Math.max(1, other.a / shared);
            long timesOther = ofFirstParts.second * ofAll.first;
            long turns = Math.floorMod(timesOther * (middle - other.b) - ofAll.second * other.c, oneShare);
            long newA = oneShare * otherShare;
            long newB = other.b + 2 * otherShare * turns;
            into.set(newA, newB, lastPart(newA, newB));
            into.settle();
        }

        /** n is not below 0. */
        void power(Form of, int n, Form into) {
            base.copy(of);
            base.settle();
            into.copy(unit);
            for (int rest = n; rest > 0; rest >>= 1) {
                if ((rest & 1) == 1) {
                    compose(into, base, into);
                }
                compose(base, base, base);
            }
        }

        boolean isGeneratorPower(Form form, int n) {
            power(generator, n, left);
            return left.isSame(form);
        }

        /** x, y and proof are reduced, the prime is above 0. */
        boolean isProven(Form x, Form y, Form proof, int prime, int squarings) {
            power(proof, prime, left);
            power(x, restOfTwos(squarings, prime), right);
            compose(left, right, left);
            return left.isSame(y);
        }

        private static int restOfTwos(int squarings, int prime) {
            int divisor = Math.max(1, prime);
            int rest = 1;
            for (int i = 0; i < squarings; i++) {
                rest = rest * 2 % divisor;
            }
            return rest;
        }

        int generatorOrder(int most) {
            left.copy(generator);
            for (int n = 1; n <= most; n++) {
                if (left.isSame(unit)) {
                    return n;
                }
                compose(left, generator, left);
            }
            return 0;
        }

        int countReduced() {
            int count = 0;
            for (long b = 1; 3 * b * b <= d; b += 2) {
                count += countReducedWith(b);
            }
            return count;
        }

        /** The reduced forms with b or -b (b odd and above 0). */
        private int countReducedWith(long b) {
            int count = 0;
            long outer = (b * b + d) / 4;
            for (long a = Math.max(1, b); a * a <= outer; a++) {
                if (outer % a == 0 && commonDivisor(commonDivisor(a, b), outer / a) == 1) {
                    // With -b it is reduced too, unless it stands on the edge.
                    count += a == b || a * a == outer ? 1 : 2;
                }
            }
            return count;
        }
    }

    /** A round, booked or running. */
    private static final class Round {
        int squarings;
        int exponent;
        int prime;
        int squaringsLeft;
        int stepsLeft;
        private int rest;
        final Form x = new Form();
        final Form y = new Form();
        final Form proof = new Form();

        void start(Group group, int newSquarings, int newExponent) {
            squarings = newSquarings;
            exponent = newExponent;
            prime = 0;
            squaringsLeft = newSquarings;
            stepsLeft = newSquarings;
            rest = 1;
            group.power(group.generator, newExponent, x);
            y.copy(x);
            proof.copy(group.unit);
        }

        void makeSquarings(Group group, int most) {
            int count = Math.min(most, squaringsLeft);
            for (int i = 0; i < count; i++) {
                group.compose(y, y, y);
            }
            squaringsLeft -= count;
            if (squaringsLeft == 0) {
                prime = primeOf(x, y, squarings);
            }
        }

        void makeSteps(Group group, int most) {
            int count = Math.min(most, stepsLeft);
            for (int i = 0; i < count; i++) {
                makeStep(group);
            }
            stepsLeft -= count;
        }

        private void makeStep(Group group) {
            group.compose(proof, proof, proof);
            rest *= 2;
            if (rest >= prime) {
                group.compose(proof, x, proof);
                rest -= prime;
            }
        }

        /** The other one is done, so what was left of it needs no copy. */
        void copyDone(Round other) {
            squarings = other.squarings;
            exponent = other.exponent;
            prime = other.prime;
            x.copy(other.x);
            y.copy(other.y);
            proof.copy(other.proof);
        }
    }
}
