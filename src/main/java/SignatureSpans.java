import java.util.NoSuchElementException;

/** Signatures and time stamps over a file that grows, as the document's promises 1 to 18 tell. */
public final class SignatureSpans {
    private static final int MAX_BYTES = 1500;
    private static final int MAX_PLACES = 8;
    private static final int MAX_SIGNATURES = 8;
    private static final int MAX_CHAIN_ROWS = 4;
    private static final int MAX_CHANGES = 40;
    private static final int MAX_STAMPS = 10;
    private static final int FIELDS = 20;
    private static final int KINDS = 4;
    private static final int ALL_KINDS = 15;
    private static final int FIELD_IS_FILLED = 0;
    private static final int DIGEST_BYTES = 32;
    private static final int HOW_MANY = -1;

    private static final int HOLDS = 1;
    private static final int BEGINS_LATE = 2;
    private static final int NOT_ROUND_ITS_PLACE = 3;
    private static final int ENDS_ELSEWHERE = 4;
    private static final int OTHER_DIGEST = 5;
    private static final int BAD_VERDICT = 6;
    private static final int OUT_OF_CHAIN = 7;
    private static final int CHANGE_NOT_ALLOWED = 8;

    private final byte[] file = new byte[MAX_BYTES];
    private int size;
    private final Places places = new Places();
    private final Signature[] signatures = new Signature[MAX_SIGNATURES];
    private int signatureCount;
    private int signedFields;
    private final Changes changes = new Changes();
    private final Stamps stamps = new Stamps();
    private final Sha256 sha = new Sha256();

    public SignatureSpans() {
    }

    public int add(byte b) throws UnsupportedOperationException {
        if (size >= MAX_BYTES) {
            throw new UnsupportedOperationException("the file is full");
        }
        file[size] = b;
        size++;
        return size;
    }

    public int poke(long i, int mask) throws IndexOutOfBoundsException {
        if (i < 0 || i >= size) {
            throw new IndexOutOfBoundsException("no such byte");
        }
        int at = (int) i;
        file[at] = (byte) (file[at] ^ mask);
        return file[at] & 255;
    }

    public int place(long from, long to) throws IllegalArgumentException, UnsupportedOperationException {
        if (from < 0 || to > size || from >= to) {
            throw new IllegalArgumentException("no row of bytes in the file");
        }
        int begin = (int) from;
        int behindLast = (int) to;
        if (places.shareByte(begin, behindLast)) {
            throw new IllegalArgumentException("another place has one of the bytes");
        }
        if (places.count >= MAX_PLACES) {
            throw new UnsupportedOperationException("no room for a place");
        }
        return places.put(begin, behindLast);
    }

    public int sign(int field, boolean verdict, long time)
            throws IllegalArgumentException, IllegalStateException, UnsupportedOperationException {
        if (!isField(field) || time < 0) {
            throw new IllegalArgumentException("no such field or time");
        }
        int spot = places.latestFree();
        if (spot < 0 || hasField(signedFields, field)) {
            throw new IllegalStateException("no place is left, or the field is signed");
        }
        boolean isChange = signatureCount > 0;
        if (signatureCount >= MAX_SIGNATURES || (isChange && changes.count >= MAX_CHANGES)) {
            throw new UnsupportedOperationException("no room for a signature or its change");
        }
        if (isChange) {
            changes.put(FIELD_IS_FILLED, field);
        }
        // Its own change is put first, so that it is not since the signature itself.
        Signature made = new Signature(places.from[spot], places.to[spot], size, verdict, time, changes.count);
        hashSigned(made);
        sha.copyWords(made.digestWords);
        places.taken[spot] = true;
        signedFields |= 1 << field;
        signatures[signatureCount] = made;
        signatureCount++;
        return signatureCount - 1;
    }

    public int holds(int signature) throws NoSuchElementException {
        Signature s = signatureAt(signature);
        int fault = s.spanFault();
        if (fault != 0) {
            return fault;
        }
        hashSigned(s);
        if (!sha.hasWords(s.digestWords)) {
            return OTHER_DIGEST;
        }
        if (!s.verdict) {
            return BAD_VERDICT;
        }
        if (!s.chainHasTime()) {
            return OUT_OF_CHAIN;
        }
        return changes.allAllowedBy(s) ? HOLDS : CHANGE_NOT_ALLOWED;
    }

    public long span(int signature, int i, int side) throws NoSuchElementException, IndexOutOfBoundsException {
        Signature s = signatureAt(signature);
        if (i < 0 || i > 1 || side < 0 || side > 1) {
            throw new IndexOutOfBoundsException("no such span or side");
        }
        return s.spans[2 * i + side];
    }

    public void tell(int signature, int i, long from, long to)
            throws NoSuchElementException, IndexOutOfBoundsException {
        Signature s = signatureAt(signature);
        if (i < 0 || i > 1) {
            throw new IndexOutOfBoundsException("no such span");
        }
        s.spans[2 * i] = from;
        s.spans[2 * i + 1] = to;
    }

    public int chain(int signature, long from, long to)
            throws NoSuchElementException, IllegalArgumentException, UnsupportedOperationException {
        Signature s = signatureAt(signature);
        if (to < from) {
            throw new IllegalArgumentException("the row ends before it begins");
        }
        if (s.chainLength >= MAX_CHAIN_ROWS) {
            throw new UnsupportedOperationException("no room in the chain");
        }
        return s.putChainRow(from, to);
    }

    public int change(int kind, int field) throws IllegalArgumentException, UnsupportedOperationException {
        if (kind < 0 || kind >= KINDS || !isField(field)) {
            throw new IllegalArgumentException("no such kind or field");
        }
        if (changes.count >= MAX_CHANGES) {
            throw new UnsupportedOperationException("no room for a change");
        }
        return changes.put(kind, field);
    }

    public int allow(int signature, int kinds) throws NoSuchElementException {
        Signature s = signatureAt(signature);
        int before = s.allowedKinds;
        s.allowedKinds = kinds & ALL_KINDS;
        return before;
    }

    public int lock(int signature, int field) throws NoSuchElementException, IllegalArgumentException {
        Signature s = signatureAt(signature);
        if (!isField(field)) {
            throw new IllegalArgumentException("no such field");
        }
        if (hasField(s.lockedFields, field)) {
            return 0;
        }
        s.lockedFields |= 1 << field;
        return 1;
    }

    public int certify(int signature, int level) throws NoSuchElementException, IllegalArgumentException {
        Signature s = signatureAt(signature);
        if (level < 1 || level > 3) {
            throw new IllegalArgumentException("no such level");
        }
        if (signature != 0 || s.level != 0) {
            return 0;
        }
        s.level = level;
        return 1;
    }

    public int since(int signature, int i, int what) throws NoSuchElementException, IndexOutOfBoundsException {
        Signature s = signatureAt(signature);
        int many = changes.count - s.changesBefore;
        if (i == HOW_MANY) {
            return many;
        }
        if (i < 0 || i >= many || what < 0 || what > 2) {
            throw new IndexOutOfBoundsException("no such change, or nothing of it");
        }
        int at = s.changesBefore + i;
        if (what == 0) {
            return changes.kinds[at];
        }
        if (what == 1) {
            return changes.fields[at];
        }
        return s.allows(changes.kinds[at], changes.fields[at]) ? 1 : 0;
    }

    public byte digest(int signature, int i) throws NoSuchElementException, ArrayIndexOutOfBoundsException {
        Signature s = signatureAt(signature);
        if (i < 0 || i >= DIGEST_BYTES) {
            throw new ArrayIndexOutOfBoundsException("no such byte of a digest");
        }
        return (byte) (s.digestWords[i >> 2] >>> (24 - 8 * (i & 3)));
    }

    public long behind(int signature) throws NoSuchElementException {
        return size - signatureAt(signature).end;
    }

    public int stamp(long time) throws IllegalArgumentException, UnsupportedOperationException {
        if (time < 0) {
            throw new IllegalArgumentException("no such time");
        }
        if (stamps.count >= MAX_STAMPS) {
            throw new UnsupportedOperationException("no room for a stamp");
        }
        hashFirst(size);
        sha.copyWords(stamps.digestWords[stamps.count]);
        return stamps.put(time, size);
    }

    public long stamped(int i, int what) throws IndexOutOfBoundsException {
        if (i == HOW_MANY) {
            return stamps.count;
        }
        if (i < 0 || i >= stamps.count || what < 0 || what > 3) {
            throw new IndexOutOfBoundsException("no such stamp, or nothing of it");
        }
        int number = stamps.order[i];
        if (what == 0) {
            return number;
        }
        if (what == 1) {
            return stamps.times[number];
        }
        if (what == 2) {
            return stamps.sizes[number];
        }
        hashFirst(stamps.sizes[number]);
        return sha.hasWords(stamps.digestWords[number]) ? 1 : 0;
    }

    private Signature signatureAt(int number) {
        Signature s = number >= 0 && number < signatureCount ? signatures[number] : null;
        if (s == null) {
            throw new NoSuchElementException("no such signature");
        }
        return s;
    }

    private static boolean isField(int field) {
        return field >= 0 && field < FIELDS;
    }

    private static boolean hasField(int fields, int field) {
        return ((fields >> field) & 1) != 0;
    }

    private void hashSigned(Signature s) {
        sha.start();
        sha.take(file, 0, s.placeFrom);
        sha.take(file, s.placeTo, s.end);
        sha.finish();
    }

    private void hashFirst(int many) {
        sha.start();
        sha.take(file, 0, many);
        sha.finish();
    }

    private static final class Places {
        final int[] from = new int[MAX_PLACES];
        final int[] to = new int[MAX_PLACES];
        final boolean[] taken = new boolean[MAX_PLACES];
        int count;

        boolean shareByte(int begin, int behindLast) {
            for (int n = 0; n < count; n++) {
                if (begin < to[n] && from[n] < behindLast) {
                    return true;
                }
            }
            return false;
        }

        int put(int begin, int behindLast) {
            from[count] = begin;
            to[count] = behindLast;
            count++;
            return count - 1;
        }

        int latestFree() {
            for (int n = count - 1; n >= 0; n--) {
                if (!taken[n]) {
                    return n;
                }
            }
            return -1;
        }
    }

    private static final class Signature {
        final int placeFrom;
        final int placeTo;
        final int end;
        final boolean verdict;
        final long time;
        final int changesBefore;
        final int[] digestWords = new int[Sha256.WORDS];
        // Span i begins at element 2 * i and ends before element 2 * i + 1.
        final long[] spans = new long[4];
        final long[] chainFrom = new long[MAX_CHAIN_ROWS];
        final long[] chainTo = new long[MAX_CHAIN_ROWS];
        int chainLength;
        int allowedKinds = ALL_KINDS;
        int lockedFields;
        int level;

        Signature(int placeFrom, int placeTo, int end, boolean verdict, long time, int changesBefore) {
            this.placeFrom = placeFrom;
            this.placeTo = placeTo;
            this.end = end;
            this.verdict = verdict;
            this.time = time;
            this.changesBefore = changesBefore;
            spans[1] = placeFrom;
            spans[2] = placeTo;
            spans[3] = end;
        }

        int spanFault() {
            if (spans[0] != 0) {
                return BEGINS_LATE;
            }
            if (spans[1] != placeFrom || spans[2] != placeTo) {
                return NOT_ROUND_ITS_PLACE;
            }
            return spans[3] != end ? ENDS_ELSEWHERE : 0;
        }

        int putChainRow(long from, long to) {
            chainFrom[chainLength] = from;
            chainTo[chainLength] = to;
            chainLength++;
            return chainLength;
        }

        boolean chainHasTime() {
            for (int row = 0; row < chainLength; row++) {
                if (time < chainFrom[row] || time > chainTo[row]) {
                    return false;
                }
            }
            return chainLength > 0;
        }

        boolean allows(int kind, int field) {
            if (((allowedKinds >> kind) & 1) == 0) {
                return false;
            }
            // Level 1 leaves no kind, level 2 kind 0, level 3 kinds 0 and 1; level 0 does not certify.
            if (level != 0 && kind > level - 2) {
                return false;
            }
            return kind != FIELD_IS_FILLED || !hasField(lockedFields, field);
        }
    }

    private static final class Changes {
        final int[] kinds = new int[MAX_CHANGES];
        final int[] fields = new int[MAX_CHANGES];
        int count;

        int put(int kind, int field) {
            kinds[count] = kind;
            fields[count] = field;
            count++;
            return count;
        }

        boolean allAllowedBy(Signature s) {
            for (int n = s.changesBefore; n < count; n++) {
                if (!s.allows(kinds[n], fields[n])) {
                    return false;
                }
            }
            return true;
        }
    }

    private static final class Stamps {
        final long[] times = new long[MAX_STAMPS];
        final int[] sizes = new int[MAX_STAMPS];
        final int[][] digestWords = new int[MAX_STAMPS][Sha256.WORDS];
        final int[] order = new int[MAX_STAMPS];
        int count;

        int put(long time, int many) {
            int number = count;
            times[number] = time;
            sizes[number] = many;
            int at = number;
            for (; at > 0 && times[order[at - 1]] > time; at--) {
                order[at] = order[at - 1];
            }
            order[at] = number;
            count++;
            return number;
        }
    }

    /** SHA-256 of the standard FIPS 180; its rows are made once and used for every digest. */
    private static final class Sha256 {
        static final int WORDS = 8;
        private static final int BLOCK = 64;
        private static final int ROUNDS = 64;
        private static final int LENGTH_BYTES = 8;
        // The file, the sign behind it and its length, in whole blocks.
        private static final int ROOM = (MAX_BYTES + 1 + LENGTH_BYTES + BLOCK - 1) / BLOCK * BLOCK;

        private static final int[] START = {
            0x6a09e667, 0xbb67ae85, 0x3c6ef372, 0xa54ff53a, 0x510e527f, 0x9b05688c, 0x1f83d9ab, 0x5be0cd19
        };
        private static final int[] ROUND = {
            0x428a2f98, 0x71374491, 0xb5c0fbcf, 0xe9b5dba5, 0x3956c25b, 0x59f111f1, 0x923f82a4, 0xab1c5ed5,
            0xd807aa98, 0x12835b01, 0x243185be, 0x550c7dc3, 0x72be5d74, 0x80deb1fe, 0x9bdc06a7, 0xc19bf174,
            0xe49b69c1, 0xefbe4786, 0x0fc19dc6, 0x240ca1cc, 0x2de92c6f, 0x4a7484aa, 0x5cb0a9dc, 0x76f988da,
            0x983e5152, 0xa831c66d, 0xb00327c8, 0xbf597fc7, 0xc6e00bf3, 0xd5a79147, 0x06ca6351, 0x14292967,
            0x27b70a85, 0x2e1b2138, 0x4d2c6dfc, 0x53380d13, 0x650a7354, 0x766a0abb, 0x81c2c92e, 0x92722c85,
            0xa2bfe8a1, 0xa81a664b, 0xc24b8b70, 0xc76c51a3, 0xd192e819, 0xd6990624, 0xf40e3585, 0x106aa070,
            0x19a4c116, 0x1e376c08, 0x2748774c, 0x34b0bcb5, 0x391c0cb3, 0x4ed8aa4a, 0x5b9cca4f, 0x682e6ff3,
            0x748f82ee, 0x78a5636f, 0x84c87814, 0x8cc70208, 0x90befffa, 0xa4506ceb, 0xbef9a3f7, 0xc67178f2
        };

        private final byte[] message = new byte[ROOM];
        private int length;
        private final int[] words = new int[WORDS];
        private final int[] schedule = new int[ROUNDS];

        void start() {
            length = 0;
        }

        void take(byte[] bytes, int from, int to) {
            for (int i = Math.max(from, 0); i < to && i < bytes.length && length < MAX_BYTES; i++) {
                message[length] = bytes[i];
                length++;
            }
        }

        void finish() {
            int whole = pad();
            for (int n = 0; n < WORDS; n++) {
                words[n] = START[n];
            }
            for (int at = 0; at + BLOCK <= whole; at += BLOCK) {
                spread(at);
                stir();
            }
        }

        void copyWords(int[] into) {
            for (int n = 0; n < WORDS && n < into.length; n++) {
                into[n] = words[n];
            }
        }

        boolean hasWords(int[] others) {
            if (others.length != WORDS) {
                return false;
            }
            for (int n = 0; n < WORDS; n++) {
                if (words[n] != others[n]) {
                    return false;
                }
            }
            return true;
        }

        private int pad() {
            int whole = (length + 1 + LENGTH_BYTES + BLOCK - 1) / BLOCK * BLOCK;
            message[length] = (byte) 0x80;
            for (int i = length + 1; i < whole - 4; i++) {
                message[i] = 0;
            }
            // The length in bits is below 2 to the 14th, so the upper four of its eight bytes stay 0.
            int bits = length * 8;
            for (int i = 1; i <= 4; i++) {
                message[whole - i] = (byte) (bits >>> (8 * (i - 1)));
            }
            return whole;
        }

        private void spread(int at) {
            for (int t = 0; t < 16; t++) {
                int i = at + 4 * t;
                schedule[t] = (message[i] & 255) << 24 | (message[i + 1] & 255) << 16
                        | (message[i + 2] & 255) << 8 | (message[i + 3] & 255);
            }
            for (int t = 16; t < ROUNDS; t++) {
                int x = schedule[t - 15];
                int y = schedule[t - 2];
                int s0 = turn(x, 7) ^ turn(x, 18) ^ x >>> 3;
                int s1 = turn(y, 17) ^ turn(y, 19) ^ y >>> 10;
                schedule[t] = s1 + schedule[t - 7] + s0 + schedule[t - 16];
            }
        }

        private void stir() {
            int a = words[0];
            int b = words[1];
            int c = words[2];
            int d = words[3];
            int e = words[4];
            int f = words[5];
            int g = words[6];
            int h = words[7];
            for (int t = 0; t < ROUNDS; t++) {
                int s1 = turn(e, 6) ^ turn(e, 11) ^ turn(e, 25);
                int t1 = h + s1 + (e & f ^ ~e & g) + ROUND[t] + schedule[t];
                int s0 = turn(a, 2) ^ turn(a, 13) ^ turn(a, 22);
                int t2 = s0 + (a & b ^ a & c ^ b & c);
                h = g;
                g = f;
                f = e;
                e = d + t1;
                d = c;
                c = b;
                b = a;
                a = t1 + t2;
            }
            words[0] += a;
            words[1] += b;
            words[2] += c;
            words[3] += d;
            words[4] += e;
            words[5] += f;
            words[6] += g;
            words[7] += h;
        }

        private static int turn(int x, int by) {
            return x >>> by | x << (32 - by);
        }
    }
}
