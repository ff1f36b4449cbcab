import java.math.BigInteger;
import java.util.ArrayList;
import java.util.Arrays;
import java.util.List;

/**
 * The document once more, as literally as it can be put down and without a thought for speed: what FoldedProof
 * answers is compared with it. It shares no code with the program.
 */
final class Reference {
    static final BigInteger P = BigInteger.valueOf(2147483579L);
    static final BigInteger Q = BigInteger.valueOf(1073741789L);
    static final BigInteger ZERO = BigInteger.ZERO;
    static final BigInteger ONE = BigInteger.ONE;
    static final BigInteger B = prime(0).pow(2);
    static final BigInteger H = prime(1).pow(2);

    int kind = 0;
    int n = 1;
    int m = 1;
    String text = "";
    int[] given;
    BigInteger[] v;
    BigInteger[] c;
    BigInteger[] seed;
    BigInteger[] claims;
    BigInteger[][] spoilt;
    BigInteger[] al;
    BigInteger[] ar;
    BigInteger[][][] weights;
    List<Integer> proof;
    List<BigInteger> challenges;
    private ReferenceTranscript transcript;
    private BigInteger y;
    private BigInteger z;
    private BigInteger x;
    private BigInteger w;

    Reference() {
        clear();
    }

    Reference(int kind, int n, int m) {
        shape(kind, n, m);
    }

    private void clear() {
        given = new int[4];
        v = zeros(4);
        c = zeros(4);
        seed = zeros(4);
        claims = new BigInteger[m];
        Arrays.fill(claims, ONE);
        spoilt = new BigInteger[4][];
        for (int j = 0; j < 4; j++) {
            spoilt[j] = zeros(5);
        }
        al = zeros(8);
        ar = zeros(8);
        weights = new BigInteger[5][12][];
        for (BigInteger[][] side : weights) {
            for (int k = 0; k < 12; k++) {
                side[k] = zeros(8);
            }
        }
        proof = new ArrayList<>();
        challenges = new ArrayList<>();
    }

    boolean type(int ch) {
        if (ch < 32 || ch > 126 || text.length() == 40) {
            return false;
        }
        text += (char) ch;
        return true;
    }

    void shape(int newKind, int newN, int newM) {
        List<Integer> ns = newKind == 0 ? List.of(1, 2, 4, 8, 16, 32) : List.of(1, 2, 4, 8);
        List<Integer> ms = newKind == 0 ? List.of(1, 2, 4) : List.of(0, 1, 2, 3, 4);
        refuseUnless((newKind == 0 || newKind == 1) && ns.contains(newN) && ms.contains(newM) && newN * newM <= 32);
        kind = newKind;
        n = newN;
        m = newM;
        clear();
    }

    void party(int j, int value, int blind, int newSeed) {
        refuseUnless(j >= 0 && j < Math.max(m, 1));
        given[j] = value;
        v[j] = scalar(value);
        c[j] = scalar(blind);
        seed[j] = scalar(newSeed);
        if (j < m) {
            claims[j] = commitment(v[j], c[j]);
        }
    }

    void multiply(int i, int left, int right) {
        refuseUnless(kind == 1 && i >= 0 && i < n);
        al[i] = scalar(left);
        ar[i] = scalar(right);
    }

    void weigh(int row, int side, int i, int by) {
        refuseUnless(kind == 1 && row >= 0 && row < 12 && side >= 0 && side <= 4 && i >= 0);
        refuseUnless(i < (side == 4 ? 1 : side == 3 ? m : n));
        weights[side][row][i] = scalar(by);
    }

    boolean holds() {
        for (int row = 0; row < 12; row++) {
            if (excess(row).signum() != 0) {
                return false;
            }
        }
        return kind == 1;
    }

    BigInteger excess(int row) {
        BigInteger sum = ZERO;
        for (int i = 0; i < n && kind == 1; i++) {
            sum = sum.add(weights[0][row][i].multiply(al[i]));
            sum = sum.add(weights[1][row][i].multiply(ar[i]));
            sum = sum.add(weights[2][row][i].multiply(al[i]).multiply(ar[i]));
        }
        for (int j = 0; j < m; j++) {
            sum = sum.subtract(weights[3][row][j].multiply(v[j]));
        }
        return sum.subtract(weights[4][row][0]).mod(Q);
    }

    void claim(int j, int element) {
        refuseUnless(j >= 0 && j < m && isElement(BigInteger.valueOf(element)));
        claims[j] = BigInteger.valueOf(element);
    }

    int claimed(int j) {
        return j >= 0 && j < m ? claims[j].intValueExact() : -1;
    }

    void spoil(int j, int what, int by) {
        refuseUnless(kind == 0 && j >= 0 && j < m && what >= 0 && what <= 4);
        spoilt[j][what] = spoilt[j][what].add(BigInteger.valueOf(by)).mod(Q);
    }

    int size() {
        return proof.size();
    }

    int byteAt(int k) {
        return k >= 0 && k < proof.size() ? proof.get(k) : -1;
    }

    boolean change(int k, int b) {
        if (k < 0 || k >= proof.size()) {
            return false;
        }
        proof.set(k, b & 255);
        return true;
    }

    boolean cut(int length) {
        if (length < 0 || length > proof.size()) {
            return false;
        }
        proof = new ArrayList<>(proof.subList(0, length));
        return true;
    }

    int challenge(int k) {
        return k >= 0 && k < challenges.size() ? challenges.get(k).intValueExact() : -1;
    }

    int prove() {
        for (int j = 0; j < m; j++) {
            claims[j] = commitment(v[j], c[j]);
        }
        proof = new ArrayList<>();
        String said = text;
        int blamed = kind == 0 ? proveRange() : proveCircuit();
        List<BigInteger> provers = challenges;
        text = said;
        int verdict = verify();
        if (!provers.equals(challenges)) {
            throw new AssertionError("the prover and the check have other challenges");
        }
        return verdict == 0 ? 0 : blamed;
    }

    int verify() {
        challenges = new ArrayList<>();
        int verdict = isMalformed() ? 1 : check();
        text = "";
        return verdict;
    }

    // The statement of a range.

    private int proveRange() {
        begin();
        int places = n * m;
        BigInteger[][] random = new BigInteger[m][];
        BigInteger[] bit = new BigInteger[places];
        BigInteger[] less = new BigInteger[places];
        BigInteger[] sl = new BigInteger[places];
        BigInteger[] sr = new BigInteger[places];
        BigInteger[] aOf = new BigInteger[m];
        BigInteger[] sOf = new BigInteger[m];
        for (int j = 0; j < m; j++) {
            random[j] = randoms(seed[j], 2 * n + 4);
            aOf[j] = power(H, random[j][0]);
            sOf[j] = power(H, random[j][1]);
            for (int k = 0; k < n; k++) {
                int i = n * j + k;
                bit[i] = BigInteger.valueOf(given[j] & 0xffffffffL).testBit(k) ? ONE : ZERO;
                less[i] = bit[i].subtract(ONE).mod(Q);
                sl[i] = random[j][2 + k];
                sr[i] = random[j][2 + n + k];
                aOf[j] = element(aOf[j], power(g(i), bit[i]), power(k(i), less[i]));
                sOf[j] = element(sOf[j], power(g(i), sl[i]), power(k(i), sr[i]));
            }
        }
        say("A", element(aOf));
        say("S", element(sOf));
        y = ask("y");
        z = ask("z");
        BigInteger[] t1 = new BigInteger[m];
        BigInteger[] t2 = new BigInteger[m];
        BigInteger[] t1Of = new BigInteger[m];
        BigInteger[] t2Of = new BigInteger[m];
        for (int j = 0; j < m; j++) {
            // Of three values of t, at x 0, 1 and -1, come its three parts.
            BigInteger at0 = rangeT(j, ZERO, bit, less, sl, sr);
            BigInteger at1 = rangeT(j, ONE, bit, less, sl, sr);
            BigInteger back = rangeT(j, Q.subtract(ONE), bit, less, sl, sr);
            BigInteger half = inverse(BigInteger.TWO);
            t1[j] = at1.subtract(back).multiply(half).mod(Q);
            t2[j] = at1.add(back).multiply(half).subtract(at0).mod(Q);
            t1Of[j] = commitment(t1[j], random[j][2 * n + 2]);
            t2Of[j] = commitment(t2[j], random[j][2 * n + 3]);
        }
        say("T_1", element(t1Of));
        say("T_2", element(t2Of));
        x = ask("x");
        BigInteger[] t = new BigInteger[m];
        BigInteger[] tb = new BigInteger[m];
        BigInteger[] eb = new BigInteger[m];
        BigInteger[] l = new BigInteger[places];
        BigInteger[] r = new BigInteger[places];
        for (int j = 0; j < m; j++) {
            t[j] = rangeT(j, x, bit, less, sl, sr).add(spoilt[j][0]).mod(Q);
            tb[j] = z.pow(2 + j).multiply(c[j]).add(random[j][2 * n + 2].multiply(x))
                .add(random[j][2 * n + 3].multiply(x).multiply(x)).add(spoilt[j][1]).mod(Q);
            eb[j] = random[j][0].add(random[j][1].multiply(x)).add(spoilt[j][2]).mod(Q);
            for (int i = n * j; i < n * j + n; i++) {
                l[i] = rangeL(i, x, bit, sl).add(i == n * j ? spoilt[j][3] : ZERO).mod(Q);
                r[i] = rangeR(i, x, less, sr).add(i == n * j ? spoilt[j][4] : ZERO).mod(Q);
            }
        }
        say("t_x", sum(t));
        say("t_x_blinding", sum(tb));
        say("e_blinding", sum(eb));
        int blamed = 0;
        for (int j = 0; j < m; j++) {
            BigInteger inner = ZERO;
            BigInteger rows = ONE;
            for (int i = n * j; i < n * j + n; i++) {
                inner = inner.add(l[i].multiply(r[i])).mod(Q);
                rows = element(rows, power(g(i), l[i]), power(kPrime(i), r[i]));
            }
            boolean right = inner.equals(t[j]);
            right &= commitment(t[j], tb[j]).equals(element(power(B, rangeD(j)), power(t1Of[j], x),
                power(t2Of[j], x.multiply(x)), power(claims[j], z.pow(2 + j))));
            right &= rows.equals(rangeBase(aOf[j], sOf[j], eb[j], n * j, n * j + n));
            blamed += right ? 0 : 1 << j;
        }
        w = ask("w");
        fold(l, r);
        return blamed;
    }

    private BigInteger rangeL(int i, BigInteger at, BigInteger[] bit, BigInteger[] sl) {
        return bit[i].subtract(z).add(sl[i].multiply(at)).mod(Q);
    }

    private BigInteger rangeR(int i, BigInteger at, BigInteger[] less, BigInteger[] sr) {
        return yTo(i).multiply(less[i].add(z).add(sr[i].multiply(at)))
            .add(z.pow(2 + i / n).multiply(BigInteger.TWO.pow(i % n))).mod(Q);
    }

    private BigInteger rangeT(int j, BigInteger at, BigInteger[] bit, BigInteger[] less, BigInteger[] sl,
            BigInteger[] sr) {
        BigInteger sum = ZERO;
        for (int i = n * j; i < n * j + n; i++) {
            sum = sum.add(rangeL(i, at, bit, sl).multiply(rangeR(i, at, less, sr)));
        }
        return sum.mod(Q);
    }

    private BigInteger rangeD(int j) {
        BigInteger ys = ZERO;
        for (int i = n * j; i < n * j + n; i++) {
            ys = ys.add(yTo(i));
        }
        return z.subtract(z.multiply(z)).multiply(ys)
            .subtract(z.pow(3 + j).multiply(BigInteger.TWO.pow(n).subtract(ONE))).mod(Q);
    }

    private BigInteger rangeBase(BigInteger a, BigInteger s, BigInteger eb, int from, int to) {
        BigInteger base = element(a, power(s, x), power(H, eb.negate()));
        for (int i = from; i < to; i++) {
            BigInteger right = z.multiply(yTo(i)).add(z.pow(2 + i / n).multiply(BigInteger.TWO.pow(i % n)));
            base = element(base, power(g(i), z.negate()), power(kPrime(i), right));
        }
        return base;
    }

    // The statement of a circuit.

    private int proveCircuit() {
        begin();
        BigInteger[] random = randoms(seed[0], 2 * n + 8);
        BigInteger[] ao = new BigInteger[n];
        BigInteger a = power(H, random[0]);
        BigInteger o = power(H, random[1]);
        BigInteger s = power(H, random[2]);
        for (int i = 0; i < n; i++) {
            ao[i] = al[i].multiply(ar[i]).mod(Q);
            a = element(a, power(g(i), al[i]), power(k(i), ar[i]));
            o = element(o, power(g(i), ao[i]));
            s = element(s, power(g(i), random[3 + i]), power(k(i), random[3 + n + i]));
        }
        say("A_I", a);
        say("A_O", o);
        say("S", s);
        y = ask("y");
        z = ask("z");
        BigInteger[] t = zeros(7);
        BigInteger[][] l = new BigInteger[n][];
        BigInteger[][] r = new BigInteger[n][];
        for (int i = 0; i < n; i++) {
            l[i] = new BigInteger[] {ZERO, al[i].add(weighed(1, i).multiply(inverse(yTo(i)))), ao[i], random[3 + i]};
            r[i] = new BigInteger[] {weighed(2, i).subtract(yTo(i)), yTo(i).multiply(ar[i]).add(weighed(0, i)), ZERO,
                yTo(i).multiply(random[3 + n + i])};
            for (int d = 0; d < 4; d++) {
                for (int e = 0; e < 4; e++) {
                    t[d + e] = t[d + e].add(l[i][d].multiply(r[i][e])).mod(Q);
                }
            }
        }
        int[] degrees = {1, 3, 4, 5, 6};
        for (int d = 0; d < 5; d++) {
            say("T_" + degrees[d], commitment(t[degrees[d]], random[3 + 2 * n + d]));
        }
        x = ask("x");
        BigInteger tb = ZERO;
        for (int d = 0; d < 5; d++) {
            tb = tb.add(random[3 + 2 * n + d].multiply(x.pow(degrees[d])));
        }
        for (int j = 0; j < m; j++) {
            tb = tb.add(x.multiply(x).multiply(weighed(3, j)).multiply(c[j]));
        }
        BigInteger[] lx = new BigInteger[n];
        BigInteger[] rx = new BigInteger[n];
        BigInteger inner = ZERO;
        for (int i = 0; i < n; i++) {
            lx[i] = atX(l[i]);
            rx[i] = atX(r[i]);
            inner = inner.add(lx[i].multiply(rx[i])).mod(Q);
        }
        say("t_x", inner);
        say("t_x_blinding", tb.mod(Q));
        say("e_blinding", random[0].multiply(x).add(random[1].multiply(x.pow(2)))
            .add(random[2].multiply(x.pow(3))).mod(Q));
        w = ask("w");
        fold(lx, rx);
        return 0;
    }

    private BigInteger atX(BigInteger[] parts) {
        BigInteger sum = ZERO;
        for (int d = 0; d < parts.length; d++) {
            sum = sum.add(parts[d].multiply(x.pow(d)));
        }
        return sum.mod(Q);
    }

    private BigInteger weighed(int side, int i) {
        BigInteger sum = ZERO;
        for (int row = 0; row < 12; row++) {
            sum = sum.add(z.pow(row + 1).multiply(weights[side][row][i]));
        }
        return sum.mod(Q);
    }

    // Both.

    private void begin() {
        challenges = new ArrayList<>();
        transcript = new ReferenceTranscript();
        transcript.message("dom-sep", ReferenceTranscript.bytes(text));
        text = "";
        transcript.message("dom-sep", ReferenceTranscript.bytes(kind == 0 ? "rangeproof v1" : "r1cs v1"));
        if (kind == 0) {
            transcript.message("n", lowestFirst(BigInteger.valueOf(n), 8));
            transcript.message("m", lowestFirst(BigInteger.valueOf(m), 8));
        }
        for (BigInteger claim : claims) {
            transcript.message("V", lowestFirst(claim, 4));
        }
        if (kind == 1) {
            transcript.message("n", lowestFirst(BigInteger.valueOf(n), 8));
        }
    }

    private int places() {
        return kind == 0 ? n * m : n;
    }

    private int foldings() {
        return Integer.numberOfTrailingZeros(places());
    }

    private void fold(BigInteger[] l, BigInteger[] r) {
        transcript.message("dom-sep", ReferenceTranscript.bytes("ipp v1"));
        transcript.message("n", lowestFirst(BigInteger.valueOf(places()), 8));
        BigInteger bw = power(B, w);
        BigInteger[] gs = new BigInteger[places()];
        BigInteger[] ks = new BigInteger[places()];
        for (int i = 0; i < places(); i++) {
            gs[i] = g(i);
            ks[i] = kPrime(i);
        }
        while (l.length > 1) {
            int h = l.length / 2;
            BigInteger first = ONE;
            BigInteger second = ONE;
            for (int i = 0; i < h; i++) {
                first = element(first, power(gs[h + i], l[i]), power(ks[i], r[h + i]),
                    power(bw, l[i].multiply(r[h + i])));
                second = element(second, power(gs[i], l[h + i]), power(ks[h + i], r[i]),
                    power(bw, l[h + i].multiply(r[i])));
            }
            say("L", first);
            say("R", second);
            BigInteger u = ask("u");
            BigInteger under = inverse(u);
            for (int i = 0; i < h; i++) {
                l[i] = u.multiply(l[i]).add(l[h + i].multiply(under)).mod(Q);
                r[i] = r[i].multiply(under).add(u.multiply(r[h + i])).mod(Q);
            }
            l = Arrays.copyOf(l, h);
            r = Arrays.copyOf(r, h);
            gs = foldElements(gs, under, u);
            ks = foldElements(ks, u, under);
        }
        put(l[0]);
        put(r[0]);
    }

    private BigInteger[] foldElements(BigInteger[] row, BigInteger first, BigInteger second) {
        BigInteger[] folded = new BigInteger[row.length / 2];
        for (int i = 0; i < folded.length; i++) {
            folded[i] = element(power(row[i], first), power(row[folded.length + i], second));
        }
        return folded;
    }

    private boolean isMalformed() {
        int elements = kind == 0 ? 4 : 8;
        int numbers = elements + 3 + 2 * foldings() + 2;
        if (proof.size() != 4 * numbers) {
            return true;
        }
        for (int k = 0; k < numbers; k++) {
            boolean isScalar = k >= elements && k < elements + 3 || k >= numbers - 2;
            if (isScalar ? number(k).compareTo(Q) >= 0 : !isElement(number(k))) {
                return true;
            }
        }
        return false;
    }

    private int check() {
        begin();
        String[] labels = kind == 0 ? new String[] {"A", "S", "T_1", "T_2", "t_x", "t_x_blinding", "e_blinding"}
            : new String[] {"A_I", "A_O", "S", "T_1", "T_3", "T_4", "T_5", "T_6", "t_x", "t_x_blinding", "e_blinding"};
        int before = labels.length;
        for (int k = 0; k < before; k++) {
            transcript.message(labels[k], lowestFirst(number(k), 4));
            if (labels[k].equals("S")) {
                y = ask("y");
                z = ask("z");
            }
            if (k == before - 4) {
                x = ask("x");
            }
        }
        w = ask("w");
        transcript.message("dom-sep", ReferenceTranscript.bytes("ipp v1"));
        transcript.message("n", lowestFirst(BigInteger.valueOf(places()), 8));
        BigInteger t = number(before - 3);
        BigInteger eb = number(before - 1);
        BigInteger bw = power(B, w);
        BigInteger d = element(kind == 0 ? rangeBase(number(0), number(1), eb, 0, places()) : circuitBase(eb),
            power(bw, t));
        BigInteger[] gs = new BigInteger[places()];
        BigInteger[] ks = new BigInteger[places()];
        for (int i = 0; i < places(); i++) {
            gs[i] = g(i);
            ks[i] = kPrime(i);
        }
        for (int f = 0; f < foldings(); f++) {
            BigInteger ll = number(before + 2 * f);
            BigInteger rr = number(before + 2 * f + 1);
            transcript.message("L", lowestFirst(ll, 4));
            transcript.message("R", lowestFirst(rr, 4));
            BigInteger u = ask("u");
            d = element(d, power(ll, u.multiply(u)), power(rr, inverse(u.multiply(u).mod(Q))));
            gs = foldElements(gs, inverse(u), u);
            ks = foldElements(ks, u, inverse(u));
        }
        if (!commitment(t, number(before - 2)).equals(kind == 0 ? rangeFirst() : circuitFirst())) {
            return 2;
        }
        BigInteger a = number(before + 2 * foldings());
        BigInteger b = number(before + 2 * foldings() + 1);
        return d.equals(element(power(gs[0], a), power(ks[0], b), power(bw, a.multiply(b)))) ? 0 : 3;
    }

    private BigInteger rangeFirst() {
        BigInteger d = ZERO;
        BigInteger values = ONE;
        for (int j = 0; j < m; j++) {
            d = d.add(rangeD(j));
            values = element(values, power(claims[j], z.pow(2 + j)));
        }
        return element(power(B, d), power(number(2), x), power(number(3), x.multiply(x)), values);
    }

    private BigInteger circuitFirst() {
        BigInteger d = weighed(4, 0);
        for (int i = 0; i < n; i++) {
            d = d.add(weighed(1, i).multiply(weighed(0, i)).multiply(inverse(yTo(i))));
        }
        BigInteger due = power(B, x.multiply(x).multiply(d));
        int[] degrees = {1, 3, 4, 5, 6};
        for (int k = 0; k < 5; k++) {
            due = element(due, power(number(3 + k), x.pow(degrees[k])));
        }
        for (int j = 0; j < m; j++) {
            due = element(due, power(claims[j], x.multiply(x).multiply(weighed(3, j))));
        }
        return due;
    }

    private BigInteger circuitBase(BigInteger eb) {
        BigInteger base = element(power(number(0), x), power(number(1), x.pow(2)), power(number(2), x.pow(3)),
            power(H, eb.negate()));
        for (int i = 0; i < n; i++) {
            base = element(base, power(g(i), x.multiply(weighed(1, i)).multiply(inverse(yTo(i)))),
                power(kPrime(i), x.multiply(weighed(0, i)).add(weighed(2, i)).subtract(yTo(i))));
        }
        return base;
    }

    private void say(String label, BigInteger number) {
        put(number);
        transcript.message(label, lowestFirst(number, 4));
    }

    private void put(BigInteger number) {
        for (int b : lowestFirst(number, 4)) {
            proof.add(b);
        }
    }

    BigInteger number(int k) {
        BigInteger number = ZERO;
        for (int b = 3; b >= 0; b--) {
            number = number.shiftLeft(8).add(BigInteger.valueOf(proof.get(4 * k + b)));
        }
        return number;
    }

    private BigInteger ask(String label) {
        BigInteger number = ZERO;
        int[] bytes = transcript.challenge(label, 64);
        for (int k = 63; k >= 0; k--) {
            number = number.shiftLeft(8).add(BigInteger.valueOf(bytes[k]));
        }
        challenges.add(number.mod(Q));
        return number.mod(Q);
    }

    private BigInteger yTo(int i) {
        return y.modPow(BigInteger.valueOf(i), Q);
    }

    private BigInteger kPrime(int i) {
        return power(k(i), inverse(yTo(i)));
    }

    static boolean isElement(BigInteger number) {
        return number.signum() > 0 && number.compareTo(P) < 0 && number.modPow(Q, P).equals(ONE);
    }

    static BigInteger commitment(BigInteger value, BigInteger blind) {
        return element(power(B, value), power(H, blind));
    }

    static BigInteger element(BigInteger... factors) {
        BigInteger product = ONE;
        for (BigInteger factor : factors) {
            product = product.multiply(factor).mod(P);
        }
        return product;
    }

    static BigInteger power(BigInteger element, BigInteger by) {
        return element.modPow(by.mod(Q), P);
    }

    static BigInteger scalar(int number) {
        return BigInteger.valueOf(number).mod(Q);
    }

    private static BigInteger inverse(BigInteger scalar) {
        return scalar.signum() == 0 ? ZERO : scalar.modInverse(Q);
    }

    private static BigInteger sum(BigInteger[] row) {
        BigInteger sum = ZERO;
        for (BigInteger number : row) {
            sum = sum.add(number).mod(Q);
        }
        return sum;
    }

    private static BigInteger[] zeros(int length) {
        BigInteger[] row = new BigInteger[length];
        Arrays.fill(row, ZERO);
        return row;
    }

    private static BigInteger[] randoms(BigInteger first, int count) {
        BigInteger[] row = new BigInteger[count];
        for (int k = 0; k < count; k++) {
            row[k] = k == 0 ? first : row[k - 1].multiply(BigInteger.valueOf(48271)).add(BigInteger.valueOf(11)).mod(Q);
        }
        return row;
    }

    private static BigInteger prime(int index) {
        BigInteger prime = BigInteger.TWO;
        for (int k = 0; k < index; k++) {
            prime = prime.nextProbablePrime();
        }
        return prime;
    }

    private static final BigInteger[] GS = squares(2);
    private static final BigInteger[] KS = squares(34);

    private static BigInteger[] squares(int from) {
        BigInteger[] row = new BigInteger[32];
        for (int i = 0; i < 32; i++) {
            row[i] = prime(from + i).pow(2);
        }
        return row;
    }

    private static BigInteger g(int i) {
        return GS[i];
    }

    private static BigInteger k(int i) {
        return KS[i];
    }

    private static int[] lowestFirst(BigInteger number, int count) {
        int[] bytes = new int[count];
        for (int k = 0; k < count; k++) {
            bytes[k] = number.shiftRight(8 * k).intValue() & 255;
        }
        return bytes;
    }

    private static void refuseUnless(boolean fine) {
        if (!fine) {
            throw new IllegalArgumentException();
        }
    }
}
