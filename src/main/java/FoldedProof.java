/**
 * Proofs that hidden numbers are small, or fit an arithmetic circuit. ../shared/DOC.md says what each call does, and
 * the things here bear the names that it gives them. It has none for the elements that a proof begins with, A and S
 * or A, O and S: here they are its HEADS.
 */
public final class FoldedProof {
    public static final int NONE = -1;

    private static final long P = 2147483579L;
    private static final long Q = 1073741789L;
    private static final int SCALAR_BITS = 30;
    private static final long B = 4;
    private static final long H = 9;
    private static final int[] PRIMES = {
        2, 3, 5, 7, 11, 13, 17, 19, 23, 29, 31, 37, 41, 43, 47, 53, 59, 61, 67, 71, 73, 79,
        83, 89, 97, 101, 103, 107, 109, 113, 127, 131, 137, 139, 149, 151, 157, 163, 167, 173, 179, 181, 191, 193,
        197, 199, 211, 223, 227, 229, 233, 239, 241, 251, 257, 263, 269, 271, 277, 281, 283, 293, 307, 311, 313, 317};

    private static final int MOST_PLACES = 32;
    private static final int MOST_PARTIES = 4;
    private static final int MOST_MULTIPLICATIONS = 8;
    private static final int MOST_HEADS = 3;
    private static final int MOST_TS = 5;
    private static final int MOST_FOLDINGS = 5;
    private static final int MOST_NUMBERS = 19;
    private static final int MOST_TEXT = 40;
    private static final int CONSTRAINTS = 12;
    private static final int DEGREES = 4;

    private static final int RANGE = 0;
    private static final int CIRCUIT = 1;

    private static final int RIGHT = 0;
    private static final int MALFORMED = 1;
    private static final int FIRST_FAILS = 2;
    private static final int SECOND_FAILS = 3;

    private final Parties parties;
    private final Dialogue dialogue;
    private final RangeStatement range;
    private final CircuitStatement circuit;
    private final Folding folding;
    private final Dealer dealer;
    private final Checker checker;
    private final Proof proof;
    private final char[] text;
    private int typed;
    private Statement statement;

    public FoldedProof() {
        Product product = new Product();
        parties = new Parties(product);
        dialogue = new Dialogue();
        range = new RangeStatement(parties, dialogue);
        circuit = new CircuitStatement(parties, dialogue);
        folding = new Folding(dialogue, product);
        dealer = new Dealer(parties, dialogue, product);
        checker = new Checker(parties, dialogue, folding, product);
        proof = new Proof();
        text = new char[MOST_TEXT];
        statement = range;
    }

    public boolean type(int c) {
        if (c < 32 || c > 126 || typed == MOST_TEXT) {
            return false;
        }
        text[typed] = (char) c;
        typed++;
        return true;
    }

    public void shape(int kind, int n, int m) throws IllegalArgumentException {
        if (kind != RANGE && kind != CIRCUIT) {
            throw new IllegalArgumentException("no such kind");
        }
        Statement next = kind == RANGE ? range : circuit;
        if (!next.fits(n, m)) {
            throw new IllegalArgumentException("no such shape");
        }
        statement = next;
        statement.become(n, m);
        circuit.clear();
        parties.clear();
        proof.clear();
        dialogue.forget();
    }

    public void party(int j, int value, int blind, int seed) throws IllegalArgumentException {
        if (j < 0 || j >= statement.seats()) {
            throw new IllegalArgumentException("no such party");
        }
        parties.seat(j, value, blind, seed);
    }

    public void multiply(int i, int left, int right) throws IllegalArgumentException {
        if (statement != circuit || i < 0 || i >= circuit.places()) {
            throw new IllegalArgumentException("no such multiplication");
        }
        circuit.setFactors(i, left, right);
    }

    public void weigh(int c, int side, int i, int by) throws IllegalArgumentException {
        if (statement != circuit || !circuit.hasWeight(c, side, i)) {
            throw new IllegalArgumentException("no such place");
        }
        circuit.setWeight(c, side, i, by);
    }

    public boolean holds() {
        return statement == circuit && circuit.isSatisfied();
    }

    public void claim(int j, int element) throws IllegalArgumentException {
        if (!hasClaim(j) || !isElement(element)) {
            throw new IllegalArgumentException("no such claim or element");
        }
        parties.setClaim(j, element);
    }

    public int claimed(int j) {
        return hasClaim(j) ? (int) parties.claimOf(j) : NONE;
    }

    public void spoil(int j, int what, int by) throws IllegalArgumentException {
        if (statement != range || !hasClaim(j) || what < 0 || what >= Parties.SPOILABLE) {
            throw new IllegalArgumentException("no such share");
        }
        parties.addSpoil(j, what, by);
    }

    public int prove() {
        parties.claimCommitments();
        proof.clear();
        dialogue.open(text, typed);
        typed = 0;
        statement.introduce(dialogue.transcript());
        dealer.drawSecrets(statement);
        dealer.commitHeads(statement, proof);
        dialogue.tell(statement, proof, statement.heads());
        dealer.expand(statement);
        dealer.commitTs(statement, proof);
        dialogue.tell(statement, proof, statement.elements());
        dealer.openShares(statement, proof);
        dialogue.tell(statement, proof, statement.beforeFoldings());
        folding.begin(statement.places());
        folding.load(dealer.leftRow(), dealer.rightRow());
        for (int f = 0; f < statement.foldings(); f++) {
            folding.appendCrosses(proof);
            dialogue.tell(statement, proof, statement.beforeFoldings() + 2 * f + 2);
            folding.foldScalars(dialogue.foldedBy(f));
            folding.foldElements(dialogue.foldedBy(f));
            folding.halve();
        }
        folding.appendLast(proof);
        if (statement != range || checker.judge(statement, proof) == RIGHT) {
            return 0;
        }
        return dealer.blamed(statement, checker);
    }

    public int verify() {
        dialogue.forget();
        int verdict = MALFORMED;
        if (checker.isWellFormed(statement, proof)) {
            dialogue.open(text, typed);
            statement.introduce(dialogue.transcript());
            dialogue.tell(statement, proof, statement.beforeLastTwo());
            verdict = checker.judge(statement, proof);
        }
        typed = 0;
        return verdict;
    }

    public int size() {
        return proof.length();
    }

    public int byteAt(int k) {
        return proof.hasByte(k) ? proof.valueAt(k) : NONE;
    }

    public boolean change(int k, int b) {
        if (!proof.hasByte(k)) {
            return false;
        }
        proof.setByte(k, b);
        return true;
    }

    public boolean cut(int n) {
        if (n < 0 || n > proof.length()) {
            return false;
        }
        proof.keepFirst(n);
        return true;
    }

    public int challenge(int k) {
        return dialogue.hasMade(k) ? (int) dialogue.made(k) : NONE;
    }

    private boolean hasClaim(int j) {
        return j >= 0 && j < statement.valueCount();
    }

    private static long scalar(long number) {
        return Math.floorMod(number, Q);
    }

    private static long times(long a, long b) {
        return a * b % Q;
    }

    private static long inverse(long a) {
        long result = 1;
        for (int bit = SCALAR_BITS - 1; bit >= 0; bit--) {
            result = result * result % Q;
            if (((Q - 2) >> bit & 1) == 1) {
                result = result * a % Q;
            }
        }
        return result;
    }

    private static long raise(long element, long power) {
        long result = 1;
        for (int bit = SCALAR_BITS - 1; bit >= 0; bit--) {
            result = result * result % P;
            if ((power >> bit & 1) == 1) {
                result = result * element % P;
            }
        }
        return result;
    }

    private static boolean isElement(long number) {
        return number >= 1 && number < P && raise(number, Q) == 1;
    }

    private static long baseG(int i) {
        long prime = PRIMES[2 + i];
        return prime * prime;
    }

    private static long baseK(int i) {
        long prime = PRIMES[2 + MOST_PLACES + i];
        return prime * prime;
    }

    /** A product of powers of elements, whose squarings are shared by all of them. */
    private static final class Product {
        private static final int MOST_FACTORS = 96;

        private final long[] bases = new long[MOST_FACTORS];
        private final long[] powers = new long[MOST_FACTORS];
        private int count;

        void begin() {
            count = 0;
        }

        void with(long base, long power) {
            if (count < MOST_FACTORS) {
                bases[count] = base;
                powers[count] = power;
                count++;
            }
        }

        long result() {
            long result = 1;
            for (int bit = SCALAR_BITS - 1; bit >= 0; bit--) {
                result = result * result % P;
                for (int i = 0; i < count; i++) {
                    if ((powers[i] >> bit & 1) == 1) {
                        result = result * bases[i] % P;
                    }
                }
            }
            return result;
        }

        long ofTwo(long base, long power, long otherBase, long otherPower) {
            begin();
            with(base, power);
            with(otherBase, otherPower);
            return result();
        }
    }

    /** The transcript that makes the challenges. */
    private static final class Transcript {
        private static final int RATE = 166;
        private static final int OF_MESSAGE = 18;
        private static final int MESSAGE = 2;
        private static final int CHALLENGE = 7;
        private static final int CHALLENGE_BYTES = 64;
        private static final int LANES = 25;
        private static final int ROUNDS = 24;
        private static final int[] TARGETS = {
            10, 7, 11, 17, 18, 3, 5, 16, 8, 21, 24, 4, 15, 23, 19, 13, 12, 2, 20, 14, 22, 9, 6, 1};
        private static final int[] TURNS = {
            1, 3, 6, 10, 15, 21, 28, 36, 45, 55, 2, 14, 27, 41, 56, 8, 25, 43, 62, 18, 39, 61, 20, 44};
        private static final long[] ROUND_CONSTANTS = {
            0x0000000000000001L, 0x0000000000008082L, 0x800000000000808aL, 0x8000000080008000L,
            0x000000000000808bL, 0x0000000080000001L, 0x8000000080008081L, 0x8000000000008009L,
            0x000000000000008aL, 0x0000000000000088L, 0x0000000080008009L, 0x000000008000000aL,
            0x000000008000808bL, 0x800000000000008bL, 0x8000000000008089L, 0x8000000000008003L,
            0x8000000000008002L, 0x8000000000000080L, 0x000000000000800aL, 0x800000008000000aL,
            0x8000000080008081L, 0x8000000000008080L, 0x0000000080000001L, 0x8000000080008008L};

        private final long[] lanes = new long[LANES];
        private final long[] columns = new long[5];
        private int at;
        private int begun;

        void begin() {
            for (int k = 0; k < LANES; k++) {
                lanes[k] = 0;
            }
            mix(0, 1);
            mix(1, RATE + 2);
            mix(2, 1);
            mix(4, 1);
            mix(5, 96);
            String name = "STROBEv1.0.2";
            for (int k = 0; k < name.length(); k++) {
                mix(6 + k, name.charAt(k));
            }
            permute();
            at = 0;
            begun = 0;
            start(OF_MESSAGE);
            absorbText("Merlin v1.0");
        }

        void tellText(String label, String message) {
            announce(label, message.length(), MESSAGE);
            absorbText(message);
        }

        void tellTyped(String label, char[] message, int length) {
            announce(label, length, MESSAGE);
            for (int k = 0; k < length; k++) {
                absorb(message[k]);
            }
        }

        void tellNumber(String label, long number, int bytes) {
            announce(label, bytes, MESSAGE);
            absorbNumber(number, bytes);
        }

        long ask(String label) {
            announce(label, CHALLENGE_BYTES, CHALLENGE);
            long result = 0;
            long weight = 1;
            for (int k = 0; k < CHALLENGE_BYTES; k++) {
                result = (result + squeeze() * weight) % Q;
                weight = weight * 256 % Q;
            }
            return result;
        }

        private void announce(String label, int length, int operation) {
            start(OF_MESSAGE);
            absorbText(label);
            absorbNumber(length, 4);
            start(operation);
        }

        private void start(int operation) {
            int old = begun;
            begun = at + 1;
            absorb(old);
            absorb(operation);
            if (operation == CHALLENGE && at != 0) {
                turn();
            }
        }

        private void absorbText(String message) {
            for (int k = 0; k < message.length(); k++) {
                absorb(message.charAt(k));
            }
        }

        private void absorbNumber(long number, int bytes) {
            for (int k = 0; k < bytes; k++) {
                absorb((int) (number >> 8 * k) & 255);
            }
        }

        private void absorb(int b) {
            mix(at, b);
            at++;
            if (at == RATE) {
                turn();
            }
        }

        private int squeeze() {
            int b = (int) (lanes[at >> 3] >>> 8 * (at & 7)) & 255;
            mix(at, b);
            at++;
            if (at == RATE) {
                turn();
            }
            return b;
        }

        private void turn() {
            mix(at, begun);
            mix(at + 1, 4);
            mix(RATE + 1, 128);
            permute();
            at = 0;
            begun = 0;
        }

        private void mix(int place, int b) {
            lanes[place >> 3] ^= (long) b << 8 * (place & 7);
        }

        /** Keccak's rounds. Theta, rho with pi, chi and iota stand in one method to keep the nesting of calls low. */
        private void permute() {
            for (int round = 0; round < ROUNDS; round++) {
                for (int x = 0; x < 5; x++) {
                    columns[x] = lanes[x] ^ lanes[x + 5] ^ lanes[x + 10] ^ lanes[x + 15] ^ lanes[x + 20];
                }
                for (int x = 0; x < 5; x++) {
                    long next = columns[x == 4 ? 0 : x + 1];
                    long shift = columns[x == 0 ? 4 : x - 1] ^ (next << 1 | next >>> 63);
                    for (int y = 0; y < LANES; y += 5) {
                        lanes[x + y] ^= shift;
                    }
                }
                long moved = lanes[1];
                for (int k = 0; k < TARGETS.length; k++) {
                    long kept = lanes[TARGETS[k]];
                    lanes[TARGETS[k]] = moved << TURNS[k] | moved >>> 64 - TURNS[k];
                    moved = kept;
                }
                for (int y = 0; y < LANES; y += 5) {
                    for (int x = 0; x < 5; x++) {
                        columns[x] = lanes[x + y];
                    }
                    for (int x = 0; x < 5; x++) {
                        lanes[x + y] ^= ~columns[x == 4 ? 0 : x + 1] & columns[x >= 3 ? x - 3 : x + 2];
                    }
                }
                lanes[0] ^= ROUND_CONSTANTS[round];
            }
        }
    }

    /** What is told of a proof in turn, and the challenges that come back. */
    private static final class Dialogue {
        private static final int BEFORE_FOLDINGS = 4;

        private final Transcript transcript = new Transcript();
        private final long[] challenges = new long[BEFORE_FOLDINGS + MOST_FOLDINGS];
        private final long[] yPowers = new long[MOST_PLACES];
        private final long[] yInversePowers = new long[MOST_PLACES];
        private final long[] zPowers = new long[CONSTRAINTS + 1];
        private final long[] xPowers = new long[2 * DEGREES - 1];
        private int count;
        private int told;

        void forget() {
            count = 0;
            told = 0;
        }

        void open(char[] text, int typed) {
            forget();
            transcript.begin();
            transcript.tellTyped("dom-sep", text, typed);
        }

        Transcript transcript() {
            return transcript;
        }

        /** Tells the proof's numbers, from the first one not told yet up to end - 1, and asks when it is time to. */
        void tell(Statement statement, Proof proof, int end) {
            int folded = statement.beforeFoldings();
            while (told < end) {
                transcript.tellNumber(statement.label(told), proof.numberAt(told), Proof.NUMBER_BYTES);
                told++;
                if (told == statement.heads()) {
                    keep(transcript.ask("y"));
                    keep(transcript.ask("z"));
                } else if (told == statement.elements()) {
                    keep(transcript.ask("x"));
                } else if (told == folded) {
                    keep(transcript.ask("w"));
                    transcript.tellText("dom-sep", "ipp v1");
                    transcript.tellNumber("n", statement.places(), 8);
                } else if (told > folded && (told - folded & 1) == 0) {
                    keep(transcript.ask("u"));
                }
            }
        }

        boolean hasMade(int k) {
            return k >= 0 && k < count;
        }

        long made(int k) {
            return challenges[k];
        }

        long y(int power) {
            return yPowers[power];
        }

        long yInverse(int power) {
            return yInversePowers[power];
        }

        long z(int power) {
            return zPowers[power];
        }

        long x(int power) {
            return xPowers[power];
        }

        long w() {
            return challenges[3];
        }

        long foldedBy(int folding) {
            return challenges[BEFORE_FOLDINGS + folding];
        }

        private void keep(long challenge) {
            if (count == 0) {
                fillPowers(yPowers, challenge);
                fillPowers(yInversePowers, inverse(challenge));
            } else if (count == 1) {
                fillPowers(zPowers, challenge);
            } else if (count == 2) {
                fillPowers(xPowers, challenge);
            }
            if (count < challenges.length) {
                challenges[count] = challenge;
                count++;
            }
        }

        private static void fillPowers(long[] row, long base) {
            long power = 1;
            for (int k = 0; k < row.length; k++) {
                row[k] = power;
                power = times(power, base);
            }
        }
    }

    /** What the parties hide, what is claimed of it, and how their shares are spoilt. */
    private static final class Parties {
        private static final int SPOILABLE = 5;

        private final Product product;
        private final int[] given = new int[MOST_PARTIES];
        private final long[] values = new long[MOST_PARTIES];
        private final long[] blinds = new long[MOST_PARTIES];
        private final long[] seeds = new long[MOST_PARTIES];
        private final long[] claims = {1, 1, 1, 1};
        private final long[][] spoils = new long[MOST_PARTIES][SPOILABLE];

        Parties(Product product) {
            this.product = product;
        }

        void clear() {
            for (int j = 0; j < MOST_PARTIES; j++) {
                given[j] = 0;
                values[j] = 0;
                blinds[j] = 0;
                seeds[j] = 0;
                claims[j] = 1;
                for (int what = 0; what < SPOILABLE; what++) {
                    spoils[j][what] = 0;
                }
            }
        }

        void seat(int j, int value, int blind, int seed) {
            given[j] = value;
            values[j] = scalar(value);
            blinds[j] = scalar(blind);
            seeds[j] = scalar(seed);
            claims[j] = commitment(j);
        }

        void claimCommitments() {
            for (int j = 0; j < MOST_PARTIES; j++) {
                claims[j] = commitment(j);
            }
        }

        int bit(int j, int k) {
            return given[j] >>> k & 1;
        }

        long valueOf(int j) {
            return values[j];
        }

        long blindOf(int j) {
            return blinds[j];
        }

        long seedOf(int j) {
            return seeds[j];
        }

        long claimOf(int j) {
            return claims[j];
        }

        void setClaim(int j, long element) {
            claims[j] = element;
        }

        long spoilOf(int j, int what) {
            return spoils[j][what];
        }

        void addSpoil(int j, int what, int by) {
            spoils[j][what] = scalar(spoils[j][what] + by);
        }

        private long commitment(int j) {
            return product.ofTwo(B, values[j], H, blinds[j]);
        }
    }

    /**
     * What is proved. Its provers each have a run of places of the same length and some of the claims: a range's
     * provers are its parties, a circuit has one. l and r are polynomials in x; what of them all may know is PUBLIC.
     */
    private abstract static class Statement {
        private final Parties parties;
        private final Dialogue dialogue;
        private int span = 1;
        private int valueCount = 1;

        Statement(Parties parties, Dialogue dialogue) {
            this.parties = parties;
            this.dialogue = dialogue;
        }

        abstract boolean fits(int n, int m);

        abstract int provers();

        abstract int heads();

        abstract int ts();

        /** The power of x that head k comes with. */
        abstract int headDegree(int k);

        /** The power of x that the k-th of the Ts commits to. */
        abstract int tDegree(int k);

        abstract String elementLabel(int k);

        abstract void introduce(Transcript transcript);

        /** The claims of the provers before this one. */
        abstract int claimsBefore(int prover);

        abstract long claimPower(int j);

        /** The prover's d. */
        abstract long shift(int prover);

        abstract long publicLeft(int degree, int i);

        abstract long publicRight(int degree, int i);

        /** What head k hides at place i for the powers of G, but for the last head, which is drawn. */
        abstract long hiddenLeft(int k, int i);

        /** The same for the powers of K. */
        abstract long hiddenRight(int k, int i);

        final void become(int n, int m) {
            span = n;
            valueCount = m;
        }

        final Parties parties() {
            return parties;
        }

        final Dialogue dialogue() {
            return dialogue;
        }

        final int span() {
            return span;
        }

        final int valueCount() {
            return valueCount;
        }

        /** How many parties can be told: party 0 gives the random numbers even where there is no value. */
        final int seats() {
            return valueCount == 0 ? 1 : valueCount;
        }

        final int places() {
            return span * provers();
        }

        final int placesBefore(int prover) {
            return span * prover;
        }

        final int foldings() {
            int foldings = 0;
            for (int length = places(); length > 1; length >>= 1) {
                foldings++;
            }
            return foldings;
        }

        final int elements() {
            return heads() + ts();
        }

        final int beforeFoldings() {
            return elements() + 3;
        }

        final int beforeLastTwo() {
            return beforeFoldings() + 2 * foldings();
        }

        final int numbers() {
            return beforeLastTwo() + 2;
        }

        final boolean isScalarAt(int k) {
            return k >= elements() && k < beforeFoldings() || k >= beforeLastTwo();
        }

        final String label(int k) {
            switch (k - elements()) {
                case 0:
                    return "t_x";
                case 1:
                    return "t_x_blinding";
                case 2:
                    return "e_blinding";
                default:
                    return k < elements() ? elementLabel(k) : (k - beforeFoldings() & 1) == 0 ? "L" : "R";
            }
        }

        final long publicLeftAtX(int i) {
            long sum = 0;
            for (int degree = 0; degree < DEGREES; degree++) {
                sum += times(publicLeft(degree, i), dialogue.x(degree));
            }
            return sum % Q;
        }

        final long publicRightAtX(int i) {
            long sum = 0;
            for (int degree = 0; degree < DEGREES; degree++) {
                sum += times(publicRight(degree, i), dialogue.x(degree));
            }
            return sum % Q;
        }

        static boolean isPowerOfTwo(int number, int most) {
            return number >= 1 && number <= most && (number & number - 1) == 0;
        }
    }

    /** Each party's value has n bits. */
    private static final class RangeStatement extends Statement {
        RangeStatement(Parties parties, Dialogue dialogue) {
            super(parties, dialogue);
        }

        boolean fits(int n, int m) {
            return isPowerOfTwo(n, MOST_PLACES) && isPowerOfTwo(m, MOST_PARTIES) && n * m <= MOST_PLACES;
        }

        int provers() {
            return valueCount();
        }

        int heads() {
            return 2;
        }

        int ts() {
            return 2;
        }

        int headDegree(int k) {
            return k;
        }

        int tDegree(int k) {
            return k + 1;
        }

        String elementLabel(int k) {
            switch (k) {
                case 0:
                    return "A";
                case 1:
                    return "S";
                case 2:
                    return "T_1";
                default:
                    return "T_2";
            }
        }

        void introduce(Transcript transcript) {
            transcript.tellText("dom-sep", "rangeproof v1");
            transcript.tellNumber("n", span(), 8);
            transcript.tellNumber("m", valueCount(), 8);
            for (int j = 0; j < valueCount(); j++) {
                transcript.tellNumber("V", parties().claimOf(j), Proof.NUMBER_BYTES);
            }
        }

        int claimsBefore(int prover) {
            return prover;
        }

        long claimPower(int j) {
            return dialogue().z(2 + j);
        }

        long shift(int prover) {
            long ys = 0;
            for (int i = placesBefore(prover); i < placesBefore(prover + 1); i++) {
                ys += dialogue().y(i);
            }
            long ones = scalar((1L << span()) - 1);
            long shift = times(scalar(dialogue().z(1) - dialogue().z(2)), ys % Q);
            return scalar(shift - times(dialogue().z(3 + prover), ones));
        }

        long publicLeft(int degree, int i) {
            return degree == 0 ? scalar(-dialogue().z(1)) : 0;
        }

        long publicRight(int degree, int i) {
            if (degree != 0) {
                return 0;
            }
            long weight = scalar(1L << bitAt(i));
            return (times(dialogue().z(1), dialogue().y(i)) + times(dialogue().z(2 + partyAt(i)), weight)) % Q;
        }

        long hiddenLeft(int k, int i) {
            return parties().bit(partyAt(i), bitAt(i));
        }

        long hiddenRight(int k, int i) {
            return scalar(hiddenLeft(k, i) - 1);
        }

        private int partyAt(int i) {
            int party = 0;
            while (party < MOST_PARTIES - 1 && placesBefore(party + 1) <= i) {
                party++;
            }
            return party;
        }

        private int bitAt(int i) {
            return i & span() - 1;
        }
    }

    /** The values, and the factors and products of the multiplications, fit the constraints. */
    private static final class CircuitStatement extends Statement {
        private static final int WL = 0;
        private static final int WR = 1;
        private static final int WO = 2;
        private static final int WV = 3;
        private static final int C = 4;
        private static final int SIDES = 5;

        private final long[] lefts = new long[MOST_MULTIPLICATIONS];
        private final long[] rights = new long[MOST_MULTIPLICATIONS];
        private final long[][] weights = new long[SIDES][CONSTRAINTS * MOST_MULTIPLICATIONS];

        CircuitStatement(Parties parties, Dialogue dialogue) {
            super(parties, dialogue);
        }

        void clear() {
            for (int i = 0; i < MOST_MULTIPLICATIONS; i++) {
                lefts[i] = 0;
                rights[i] = 0;
            }
            for (int side = 0; side < SIDES; side++) {
                for (int place = 0; place < weights[side].length; place++) {
                    weights[side][place] = 0;
                }
            }
        }

        void setFactors(int i, int left, int right) {
            lefts[i] = scalar(left);
            rights[i] = scalar(right);
        }

        boolean hasWeight(int c, int side, int i) {
            if (c < 0 || c >= CONSTRAINTS || side < 0 || side >= SIDES || i < 0) {
                return false;
            }
            return i < (side == C ? 1 : side == WV ? valueCount() : places());
        }

        void setWeight(int c, int side, int i, int by) {
            weights[side][c * MOST_MULTIPLICATIONS + i] = scalar(by);
        }

        boolean isSatisfied() {
            for (int c = 0; c < CONSTRAINTS; c++) {
                if (excess(c) != 0) {
                    return false;
                }
            }
            return true;
        }

        boolean fits(int n, int m) {
            return isPowerOfTwo(n, MOST_MULTIPLICATIONS) && m >= 0 && m <= MOST_PARTIES;
        }

        int provers() {
            return 1;
        }

        int heads() {
            return 3;
        }

        int ts() {
            return 5;
        }

        int headDegree(int k) {
            return k + 1;
        }

        int tDegree(int k) {
            return k == 0 ? 1 : k + 2;
        }

        String elementLabel(int k) {
            switch (k) {
                case 0:
                    return "A_I";
                case 1:
                    return "A_O";
                case 2:
                    return "S";
                case 3:
                    return "T_1";
                case 4:
                    return "T_3";
                case 5:
                    return "T_4";
                case 6:
                    return "T_5";
                default:
                    return "T_6";
            }
        }

        void introduce(Transcript transcript) {
            transcript.tellText("dom-sep", "r1cs v1");
            for (int j = 0; j < valueCount(); j++) {
                transcript.tellNumber("V", parties().claimOf(j), Proof.NUMBER_BYTES);
            }
            transcript.tellNumber("n", places(), 8);
        }

        int claimsBefore(int prover) {
            return prover == 0 ? 0 : valueCount();
        }

        long claimPower(int j) {
            return times(dialogue().x(2), weighed(WV, j));
        }

        long shift(int prover) {
            long sum = weighed(C, 0);
            for (int i = 0; i < places(); i++) {
                sum += times(publicLeft(1, i), publicRight(1, i));
            }
            return times(dialogue().x(2), sum % Q);
        }

        long publicLeft(int degree, int i) {
            return degree == 1 ? times(weighed(WR, i), dialogue().yInverse(i)) : 0;
        }

        long publicRight(int degree, int i) {
            if (degree == 0) {
                return scalar(weighed(WO, i) - dialogue().y(i));
            }
            return degree == 1 ? weighed(WL, i) : 0;
        }

        long hiddenLeft(int k, int i) {
            return k == 0 ? lefts[i] : productAt(i);
        }

        long hiddenRight(int k, int i) {
            return k == 0 ? rights[i] : 0;
        }

        private long productAt(int i) {
            return times(lefts[i], rights[i]);
        }

        private long weight(int side, int c, int i) {
            return weights[side][c * MOST_MULTIPLICATIONS + i];
        }

        private long weighed(int side, int i) {
            long sum = 0;
            for (int c = 0; c < CONSTRAINTS; c++) {
                sum += times(dialogue().z(c + 1), weight(side, c, i));
            }
            return sum % Q;
        }

        private long excess(int c) {
            long sum = -weight(C, c, 0);
            for (int i = 0; i < places(); i++) {
                sum += times(weight(WL, c, i), lefts[i]);
                sum += times(weight(WR, c, i), rights[i]);
                sum += times(weight(WO, c, i), productAt(i));
            }
            for (int j = 0; j < valueCount(); j++) {
                sum -= times(weight(WV, c, j), parties().valueOf(j));
            }
            return scalar(sum);
        }
    }

    /**
     * Makes the provers' shares and joins them. A share has the numbers that a proof has before its foldings, in
     * the same order, so that one check serves for both.
     */
    private static final class Dealer {
        private final Parties parties;
        private final Dialogue dialogue;
        private final Product product;
        private final long[][] hiddenLeft = new long[MOST_HEADS][MOST_PLACES];
        private final long[][] hiddenRight = new long[MOST_HEADS][MOST_PLACES];
        private final long[][] headBlinds = new long[MOST_PARTIES][MOST_HEADS];
        private final long[][] tBlinds = new long[MOST_PARTIES][MOST_TS];
        private final long[][] leftParts = new long[DEGREES][MOST_PLACES];
        private final long[][] rightParts = new long[DEGREES][MOST_PLACES];
        private final long[][] shares = new long[MOST_PARTIES][MOST_HEADS + MOST_TS + 3];
        private final long[] left = new long[MOST_PLACES];
        private final long[] right = new long[MOST_PLACES];
        private long random;

        Dealer(Parties parties, Dialogue dialogue, Product product) {
            this.parties = parties;
            this.dialogue = dialogue;
            this.product = product;
        }

        long[] leftRow() {
            return left;
        }

        long[] rightRow() {
            return right;
        }

        void drawSecrets(Statement statement) {
            int last = statement.heads() - 1;
            for (int p = 0; p < statement.provers(); p++) {
                int from = statement.placesBefore(p);
                int to = statement.placesBefore(p + 1);
                random = parties.seedOf(p);
                drawInto(headBlinds[p], 0, statement.heads());
                drawInto(hiddenLeft[last], from, to);
                drawInto(hiddenRight[last], from, to);
                drawInto(tBlinds[p], 0, statement.ts());
            }
            for (int k = 0; k < last; k++) {
                for (int i = 0; i < statement.places(); i++) {
                    hiddenLeft[k][i] = statement.hiddenLeft(k, i);
                    hiddenRight[k][i] = statement.hiddenRight(k, i);
                }
            }
        }

        void commitHeads(Statement statement, Proof proof) {
            for (int p = 0; p < statement.provers(); p++) {
                for (int k = 0; k < statement.heads(); k++) {
                    product.begin();
                    product.with(H, headBlinds[p][k]);
                    for (int i = statement.placesBefore(p); i < statement.placesBefore(p + 1); i++) {
                        product.with(baseG(i), hiddenLeft[k][i]);
                        product.with(baseK(i), hiddenRight[k][i]);
                    }
                    shares[p][k] = product.result();
                }
            }
            appendTotals(statement, proof, 0, statement.heads());
        }

        /** Makes the polynomials of l and r, once y and z are known. */
        void expand(Statement statement) {
            for (int i = 0; i < statement.places(); i++) {
                for (int degree = 0; degree < DEGREES; degree++) {
                    leftParts[degree][i] = statement.publicLeft(degree, i);
                    rightParts[degree][i] = statement.publicRight(degree, i);
                }
                for (int k = 0; k < statement.heads(); k++) {
                    int degree = statement.headDegree(k);
                    leftParts[degree][i] = (leftParts[degree][i] + hiddenLeft[k][i]) % Q;
                    rightParts[degree][i] = (rightParts[degree][i] + times(dialogue.y(i), hiddenRight[k][i])) % Q;
                }
            }
        }

        void commitTs(Statement statement, Proof proof) {
            for (int p = 0; p < statement.provers(); p++) {
                int from = statement.placesBefore(p);
                int to = statement.placesBefore(p + 1);
                for (int k = 0; k < statement.ts(); k++) {
                    long part = productPart(statement.tDegree(k), from, to);
                    shares[p][statement.heads() + k] = product.ofTwo(B, part, H, tBlinds[p][k]);
                }
            }
            appendTotals(statement, proof, statement.heads(), statement.elements());
        }

        /** Makes t, tb, eb, l and r, once x is known, and spoils them. */
        void openShares(Statement statement, Proof proof) {
            for (int i = 0; i < statement.places(); i++) {
                left[i] = atX(leftParts, i);
                right[i] = atX(rightParts, i);
            }
            int t = statement.elements();
            for (int p = 0; p < statement.provers(); p++) {
                int from = statement.placesBefore(p);
                long honest = innerProduct(left, right, from, statement.placesBefore(p + 1));
                shares[p][t] = (honest + parties.spoilOf(p, 0)) % Q;
                shares[p][t + 1] = (tBlinding(statement, p) + parties.spoilOf(p, 1)) % Q;
                shares[p][t + 2] = (headBlinding(statement, p) + parties.spoilOf(p, 2)) % Q;
                left[from] = (left[from] + parties.spoilOf(p, 3)) % Q;
                right[from] = (right[from] + parties.spoilOf(p, 4)) % Q;
            }
            appendTotals(statement, proof, statement.elements(), statement.beforeFoldings());
        }

        int blamed(Statement statement, Checker checker) {
            int blamed = 0;
            for (int p = 0; p < statement.provers(); p++) {
                if (!isRight(statement, checker, p)) {
                    blamed |= 1 << p;
                }
            }
            return blamed;
        }

        private boolean isRight(Statement statement, Checker checker, int p) {
            int from = statement.placesBefore(p);
            int to = statement.placesBefore(p + 1);
            if (shares[p][statement.elements()] != innerProduct(left, right, from, to)) {
                return false;
            }
            if (!checker.firstHolds(statement, shares[p], p, p + 1)) {
                return false;
            }
            product.begin();
            checker.putBase(statement, shares[p], p, p + 1);
            long base = product.result();
            product.begin();
            for (int i = from; i < to; i++) {
                product.with(baseG(i), left[i]);
                product.with(baseK(i), times(right[i], dialogue.yInverse(i)));
            }
            return product.result() == base;
        }

        private void appendTotals(Statement statement, Proof proof, int from, int to) {
            for (int k = from; k < to; k++) {
                boolean multiplied = k < statement.elements();
                long total = multiplied ? 1 : 0;
                for (int p = 0; p < statement.provers(); p++) {
                    total = multiplied ? total * shares[p][k] % P : (total + shares[p][k]) % Q;
                }
                proof.append(total);
            }
        }

        private void drawInto(long[] row, int from, int to) {
            for (int i = from; i < to; i++) {
                row[i] = random;
                random = (48271 * random + 11) % Q;
            }
        }

        private long productPart(int degree, int from, int to) {
            long sum = 0;
            for (int d = 0; d < DEGREES; d++) {
                int rest = degree - d;
                if (rest >= 0 && rest < DEGREES) {
                    sum += innerProduct(leftParts[d], rightParts[rest], from, to);
                }
            }
            return sum % Q;
        }

        private long atX(long[][] parts, int i) {
            long sum = 0;
            for (int degree = 0; degree < DEGREES; degree++) {
                sum += times(parts[degree][i], dialogue.x(degree));
            }
            return sum % Q;
        }

        private long tBlinding(Statement statement, int p) {
            long sum = 0;
            for (int k = 0; k < statement.ts(); k++) {
                sum += times(tBlinds[p][k], dialogue.x(statement.tDegree(k)));
            }
            for (int j = statement.claimsBefore(p); j < statement.claimsBefore(p + 1); j++) {
                sum += times(statement.claimPower(j), parties.blindOf(j));
            }
            return sum % Q;
        }

        private long headBlinding(Statement statement, int p) {
            long sum = 0;
            for (int k = 0; k < statement.heads(); k++) {
                sum += times(headBlinds[p][k], dialogue.x(statement.headDegree(k)));
            }
            return sum % Q;
        }

        private static long innerProduct(long[] left, long[] right, int from, int to) {
            long sum = 0;
            for (int i = from; i < to; i++) {
                sum += times(left[i], right[i]);
            }
            return sum % Q;
        }
    }

    /** The rows l, r, G and K' on their way to one number each. */
    private static final class Folding {
        private final Dialogue dialogue;
        private final Product product;
        private final long[] left = new long[MOST_PLACES];
        private final long[] right = new long[MOST_PLACES];
        private final long[] gs = new long[MOST_PLACES];
        private final long[] ks = new long[MOST_PLACES];
        private int half;

        Folding(Dialogue dialogue, Product product) {
            this.dialogue = dialogue;
            this.product = product;
        }

        void begin(int length) {
            half = length >> 1;
            for (int i = 0; i < length; i++) {
                gs[i] = baseG(i);
                ks[i] = raise(baseK(i), dialogue.yInverse(i));
            }
        }

        void load(long[] leftRow, long[] rightRow) {
            for (int i = 0; i < MOST_PLACES; i++) {
                left[i] = leftRow[i];
                right[i] = rightRow[i];
            }
        }

        void appendCrosses(Proof proof) {
            proof.append(cross(0, half));
            proof.append(cross(half, 0));
        }

        void appendLast(Proof proof) {
            proof.append(left[0]);
            proof.append(right[0]);
        }

        void foldScalars(long u) {
            long v = inverse(u);
            for (int i = 0; i < half; i++) {
                left[i] = (times(u, left[i]) + times(v, left[half + i])) % Q;
                right[i] = (times(v, right[i]) + times(u, right[half + i])) % Q;
            }
        }

        void foldElements(long u) {
            long v = inverse(u);
            for (int i = 0; i < half; i++) {
                gs[i] = product.ofTwo(gs[i], v, gs[half + i], u);
                ks[i] = product.ofTwo(ks[i], u, ks[half + i], v);
            }
        }

        void halve() {
            half >>= 1;
        }

        long lastG() {
            return gs[0];
        }

        long lastK() {
            return ks[0];
        }

        /** The halves of l and K' that begin at own meet those of r and G that begin at other. */
        private long cross(int own, int other) {
            long sum = 0;
            product.begin();
            for (int i = 0; i < half; i++) {
                product.with(gs[other + i], left[own + i]);
                product.with(ks[own + i], right[other + i]);
                sum += times(left[own + i], right[other + i]);
            }
            product.with(B, times(dialogue.w(), sum % Q));
            return product.result();
        }
    }

    /** The check of a proof, and of one party's share alone. */
    private static final class Checker {
        private final Parties parties;
        private final Dialogue dialogue;
        private final Folding folding;
        private final Product product;
        private final long[] numbers = new long[MOST_NUMBERS];

        Checker(Parties parties, Dialogue dialogue, Folding folding, Product product) {
            this.parties = parties;
            this.dialogue = dialogue;
            this.folding = folding;
            this.product = product;
        }

        boolean isWellFormed(Statement statement, Proof proof) {
            if (proof.length() != Proof.NUMBER_BYTES * statement.numbers()) {
                return false;
            }
            for (int k = 0; k < statement.numbers(); k++) {
                long number = proof.numberAt(k);
                if (statement.isScalarAt(k) ? number >= Q : !isElement(number)) {
                    return false;
                }
            }
            return true;
        }

        /** What is wrong with a well-formed proof whose challenges are made. */
        int judge(Statement statement, Proof proof) {
            for (int k = 0; k < statement.numbers(); k++) {
                numbers[k] = proof.numberAt(k);
            }
            if (!firstHolds(statement, numbers, 0, statement.provers())) {
                return FIRST_FAILS;
            }
            return secondHolds(statement) ? RIGHT : SECOND_FAILS;
        }

        /** FIRST, of the provers from .. to - 1, for a proof's or a share's row of numbers. */
        boolean firstHolds(Statement statement, long[] row, int from, int to) {
            int t = statement.elements();
            long opened = product.ofTwo(B, row[t], H, row[t + 1]);
            long shift = 0;
            for (int p = from; p < to; p++) {
                shift += statement.shift(p);
            }
            product.begin();
            product.with(B, shift % Q);
            for (int k = 0; k < statement.ts(); k++) {
                product.with(row[statement.heads() + k], dialogue.x(statement.tDegree(k)));
            }
            for (int j = statement.claimsBefore(from); j < statement.claimsBefore(to); j++) {
                product.with(parties.claimOf(j), statement.claimPower(j));
            }
            return product.result() == opened;
        }

        /** Puts the factors of BASE, of the provers from .. to - 1, into the product. */
        void putBase(Statement statement, long[] row, int from, int to) {
            for (int k = 0; k < statement.heads(); k++) {
                product.with(row[k], dialogue.x(statement.headDegree(k)));
            }
            product.with(H, scalar(-row[statement.elements() + 2]));
            for (int i = statement.placesBefore(from); i < statement.placesBefore(to); i++) {
                product.with(baseG(i), statement.publicLeftAtX(i));
                product.with(baseK(i), times(statement.publicRightAtX(i), dialogue.yInverse(i)));
            }
        }

        private boolean secondHolds(Statement statement) {
            foldBases(statement);
            product.begin();
            putBase(statement, numbers, 0, statement.provers());
            product.with(B, times(dialogue.w(), numbers[statement.elements()]));
            int k = statement.beforeFoldings();
            for (int f = 0; f < statement.foldings(); f++) {
                long square = times(dialogue.foldedBy(f), dialogue.foldedBy(f));
                product.with(numbers[k], square);
                product.with(numbers[k + 1], inverse(square));
                k += 2;
            }
            long due = product.result();
            product.begin();
            product.with(folding.lastG(), numbers[k]);
            product.with(folding.lastK(), numbers[k + 1]);
            product.with(B, times(dialogue.w(), times(numbers[k], numbers[k + 1])));
            return product.result() == due;
        }

        private void foldBases(Statement statement) {
            folding.begin(statement.places());
            for (int f = 0; f < statement.foldings(); f++) {
                folding.foldElements(dialogue.foldedBy(f));
                folding.halve();
            }
        }
    }

    /** A row of numbers of four bytes each, the lowest first. */
    private static final class Proof {
        private static final int NUMBER_BYTES = 4;

        private final byte[] bytes = new byte[NUMBER_BYTES * MOST_NUMBERS];
        private int length;

        void clear() {
            length = 0;
        }

        void append(long number) {
            if (length + NUMBER_BYTES <= bytes.length) {
                for (int k = 0; k < NUMBER_BYTES; k++) {
                    bytes[length + k] = (byte) (number >> 8 * k);
                }
                length += NUMBER_BYTES;
            }
        }

        long numberAt(int k) {
            long number = 0;
            for (int b = NUMBER_BYTES - 1; b >= 0; b--) {
                number = number << 8 | valueAt(NUMBER_BYTES * k + b);
            }
            return number;
        }

        int length() {
            return length;
        }

        boolean hasByte(int k) {
            return k >= 0 && k < length;
        }

        int valueAt(int k) {
            return bytes[k] & 255;
        }

        void setByte(int k, int b) {
            bytes[k] = (byte) b;
        }

        void keepFirst(int n) {
            length = n;
        }
    }
}
