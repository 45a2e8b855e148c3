import java.nio.charset.StandardCharsets;
import java.security.MessageDigest;
import java.security.NoSuchAlgorithmException;
import java.util.Arrays;
import java.util.NoSuchElementException;

/** One method for each promise: ordinary inputs, the edges that the document names, and wrong inputs. */
final class PromisesTest {
    private static final Class<IllegalArgumentException> ARGUMENT = IllegalArgumentException.class;
    private static final Class<IllegalStateException> STATE = IllegalStateException.class;
    private static final Class<UnsupportedOperationException> ROOM = UnsupportedOperationException.class;
    private static final Class<IndexOutOfBoundsException> INDEX = IndexOutOfBoundsException.class;
    private static final Class<ArrayIndexOutOfBoundsException> ARRAY_INDEX = ArrayIndexOutOfBoundsException.class;
    private static final Class<NoSuchElementException> NONE = NoSuchElementException.class;
    private static final int[] WRONG_FIELDS = {-1, 20, 32, Integer.MIN_VALUE, Integer.MAX_VALUE};

    public static void main(String[] args) throws NoSuchAlgorithmException {
        promise1New();
        promise2Add();
        promise3Poke();
        promise4Place();
        promise5Sign();
        promise5SignFull();
        promise6Holds();
        promise6HoldsFirstNumber();
        promise7Span();
        promise8Tell();
        promise9Chain();
        promise10Change();
        promise11Allow();
        promise12Lock();
        promise13Certify();
        promise14Since();
        promise15Digest();
        promise16Behind();
        promise17Stamp();
        promise18Stamped();
        Check.end();
    }

    private static SignatureSpans fileOf(int many) {
        SignatureSpans x = new SignatureSpans();
        grow(x, many);
        return x;
    }

    private static void grow(SignatureSpans x, int many) {
        for (int i = 0; i < many; i++) {
            x.add((byte) (i * 37 + 11));
        }
    }

    /** Twenty bytes, place 4 to 7, and signature 0 of field 3 and time 50 with a chain that has it. */
    private static SignatureSpans signed() {
        SignatureSpans x = fileOf(20);
        x.place(4, 7);
        x.sign(3, true, 50);
        x.chain(0, 50, 50);
        return x;
    }

    private static int[] wrongSignatures(int count) {
        return new int[] {count, -1, 8, 9, Integer.MIN_VALUE, Integer.MAX_VALUE};
    }

    private static void promise1New() {
        SignatureSpans x = new SignatureSpans();
        Check.due("stamps of a new object", x.stamped(-1, 0), 0);
        Check.dueThrow("poke in an empty file", INDEX, () -> x.poke(0, 0));
        Check.dueThrow("place in an empty file", ARGUMENT, () -> x.place(0, 1));
        Check.dueThrow("sign with no place", STATE, () -> x.sign(0, true, 0));
        Check.dueThrow("holds with no signature", NONE, () -> x.holds(0));
        Check.due("the first change", x.change(0, 0), 1);
        Check.due("the first byte", x.add((byte) 9), 1);
        Check.due("another object has a file of its own", new SignatureSpans().add((byte) 9), 1);
    }

    private static void promise2Add() {
        SignatureSpans x = new SignatureSpans();
        for (int i = 0; i < 1500; i++) {
            Check.due("add", x.add((byte) (i - 128)), i + 1);
        }
        Check.dueThrow("add to a full file", ROOM, () -> x.add((byte) 0));
        Check.dueThrow("add to a full file again", ROOM, () -> x.add((byte) 0));
        for (int i = 0; i < 1500; i++) {
            Check.due("byte " + i, x.poke(i, 0), (i - 128) & 255);
        }
        Check.dueThrow("no byte 1500", INDEX, () -> x.poke(1500, 0));
    }

    private static void promise3Poke() {
        SignatureSpans x = new SignatureSpans();
        x.add((byte) 0x0f);
        x.add((byte) -1);
        Check.due("poke", x.poke(0, 0xf0), 255);
        Check.due("poke stays", x.poke(0, 0), 255);
        Check.due("poke takes eight bits only", x.poke(0, 0x7fffff00), 255);
        Check.due("poke takes the lowest bits", x.poke(0, 0xabcd01fe), 1);
        Check.due("poke by -1", x.poke(1, -1), 0);
        Check.due("poke to 128", x.poke(1, 128), 128);
        for (long i : new long[] {2, -1, 1L << 32, -(1L << 32), (1L << 32) + 1, Long.MIN_VALUE, Long.MAX_VALUE}) {
            Check.dueThrow("poke " + i, INDEX, () -> x.poke(i, 3));
        }
        Check.due("a throw changes nothing", x.poke(0, 0) * 256 + x.poke(1, 0), 256 + 128);
    }

    private static void promise4Place() {
        SignatureSpans x = fileOf(30);
        long wrap = 1L << 32;
        long[][] wrong = {{0, 0}, {5, 4}, {-1, 2}, {29, 31}, {30, 31}, {30, 30}, {wrap, wrap + 1}, {0, wrap + 1},
            {Long.MIN_VALUE, 1}, {0, Long.MAX_VALUE}, {Long.MAX_VALUE, Long.MIN_VALUE}, {-wrap, 2}};
        for (long[] w : wrong) {
            Check.dueThrow("place " + Arrays.toString(w), ARGUMENT, () -> x.place(w[0], w[1]));
        }
        Check.due("place", x.place(10, 14), 0);
        long[][] shared = {{10, 14}, {9, 11}, {13, 15}, {11, 12}, {9, 15}, {0, 30}, {10, 11}, {13, 14}};
        for (long[] w : shared) {
            Check.dueThrow("place " + Arrays.toString(w) + " shares a byte", ARGUMENT, () -> x.place(w[0], w[1]));
        }
        Check.due("place before", x.place(9, 10), 1);
        Check.due("place behind", x.place(14, 15), 2);
        Check.due("place at the end", x.place(29, 30), 3);
        Check.due("place at the beginning", x.place(0, 1), 4);
        Check.due("place", x.place(2, 3), 5);
        x.sign(0, true, 0);
        Check.dueThrow("a signed place has its bytes still", ARGUMENT, () -> x.place(2, 3));
        Check.due("place", x.place(4, 5), 6);
        Check.due("place", x.place(6, 7), 7);
        Check.dueThrow("a ninth place", ROOM, () -> x.place(20, 21));
        Check.dueThrow("a ninth place that shares a byte", ARGUMENT, () -> x.place(6, 7));
        Check.dueThrow("a ninth place out of the file", ARGUMENT, () -> x.place(30, 31));
    }

    private static void promise5Sign() {
        SignatureSpans x = fileOf(20);
        Check.dueThrow("sign with no place", STATE, () -> x.sign(0, true, 0));
        Check.dueThrow("sign with no place and no such field", ARGUMENT, () -> x.sign(20, true, 0));
        x.place(10, 12);
        x.place(2, 4);
        for (int field : WRONG_FIELDS) {
            Check.dueThrow("sign field " + field, ARGUMENT, () -> x.sign(field, true, 0));
        }
        Check.dueThrow("sign time -1", ARGUMENT, () -> x.sign(0, true, -1));
        Check.dueThrow("sign least time", ARGUMENT, () -> x.sign(0, true, Long.MIN_VALUE));
        Check.due("sign", x.sign(19, true, 0), 0);
        Check.due("it has the latest place, not the last one in the file", x.span(0, 0, 1), 2);
        Check.due("the first signature is no change", x.since(0, -1, 0), 0);
        Check.dueThrow("sign the same field", STATE, () -> x.sign(19, false, 3));
        Check.dueThrow("sign the same field at a wrong time", ARGUMENT, () -> x.sign(19, false, -3));
        x.place(6, 8);
        Check.due("sign", x.sign(0, true, Long.MAX_VALUE), 1);
        Check.due("it has the latest place", x.span(1, 0, 1), 6);
        Check.due("the second signature is a change", x.since(0, -1, 0), 1);
        Check.due("of kind 0", x.since(0, 0, 0), 0);
        Check.due("of its field", x.since(0, 0, 1), 0);
        Check.due("it is not since itself", x.since(1, -1, 0), 0);
        Check.due("sign", x.sign(5, true, 1), 2);
        Check.due("it has the place that is left", x.span(2, 0, 1), 10);
        Check.dueThrow("no place is left", STATE, () -> x.sign(6, true, 1));
        Check.due("changes that are counted", x.change(1, 1), 3);
    }

    private static void promise5SignFull() {
        SignatureSpans x = fileOf(20);
        for (int n = 0; n < 8; n++) {
            x.place(2 * n, 2 * n + 1);
        }
        for (int n = 0; n < 40; n++) {
            x.change(3, 0);
        }
        Check.due("the first one needs no room for a change", x.sign(4, true, 1), 0);
        Check.dueThrow("no room for its change", ROOM, () -> x.sign(5, true, 1));
        Check.dueThrow("the field comes first", STATE, () -> x.sign(4, true, 1));
        Check.dueThrow("the time comes first", ARGUMENT, () -> x.sign(5, true, -1));
        Check.dueThrow("no signature 1 was made", NONE, () -> x.holds(1));
        Check.due("no change was made", x.since(0, -1, 0), 0);

        SignatureSpans y = fileOf(20);
        for (int n = 0; n < 8; n++) {
            y.place(2 * n, 2 * n + 1);
        }
        for (int n = 0; n < 39; n++) {
            y.change(3, 0);
        }
        y.sign(0, true, 0);
        Check.due("the 40th change is a signature's", y.sign(1, true, 0), 1);
        Check.dueThrow("there is no 41st", ROOM, () -> y.sign(2, true, 0));
        Check.due("it was the 40th", y.since(0, -1, 0), 1);

        SignatureSpans z = fileOf(20);
        for (int n = 0; n < 8; n++) {
            z.place(2 * n, 2 * n + 1);
        }
        for (int n = 0; n < 8; n++) {
            Check.due("sign", z.sign(n + 12, true, n), n);
            Check.due("its place", z.span(n, 0, 1), 14 - 2 * n);
        }
        Check.dueThrow("a ninth one has no place left", STATE, () -> z.sign(1, true, 0));
    }

    private static void promise6Holds() {
        for (int w : wrongSignatures(1)) {
            SignatureSpans x = signed();
            Check.dueThrow("holds " + w, NONE, () -> x.holds(w));
        }
        SignatureSpans x = signed();
        Check.due("it holds", x.holds(0), 1);
        grow(x, 5);
        x.poke(20, 255);
        Check.due("bytes behind do not count", x.holds(0), 1);
        x.poke(4, 1);
        x.poke(6, 1);
        Check.due("bytes of its place do not count", x.holds(0), 1);
        for (int at : new int[] {0, 3, 7, 19}) {
            x.poke(at, 64);
            Check.due("byte " + at + " counts", x.holds(0), 5);
            x.poke(at, 64);
            Check.due("byte " + at + " is as it was", x.holds(0), 1);
        }
        x.chain(0, 0, 49);
        Check.due("each row must have its time", x.holds(0), 7);
        SignatureSpans y = fileOf(2);
        y.place(0, 2);
        y.sign(0, true, 7);
        Check.due("a chain with no row", y.holds(0), 7);
        y.chain(0, 7, 7);
        Check.due("a place that is the whole file", y.holds(0), 1);
        y.change(2, 0);
        Check.due("all kinds are allowed at first", y.holds(0), 1);
        y.allow(0, 8 + 2 + 1);
        Check.due("the page is not allowed", y.holds(0), 8);
    }

    private static void promise6HoldsFirstNumber() {
        SignatureSpans x = fileOf(20);
        x.place(4, 7);
        x.sign(3, false, 50);
        x.change(1, 1);
        x.allow(0, 0);
        x.poke(1, 1);
        x.tell(0, 0, 1, 5);
        x.tell(0, 1, 8, 21);
        Check.due("all is wrong", x.holds(0), 2);
        x.tell(0, 0, -1, 5);
        Check.due("it begins before the file", x.holds(0), 2);
        x.tell(0, 0, 0, 5);
        Check.due("its beginning is right", x.holds(0), 3);
        x.tell(0, 0, 0, 4);
        Check.due("the second span begins wrong", x.holds(0), 3);
        x.tell(0, 0, 0, 5);
        x.tell(0, 1, 7, 21);
        Check.due("the first span ends wrong", x.holds(0), 3);
        x.tell(0, 0, 0, 4);
        Check.due("its spans are round its place", x.holds(0), 4);
        x.tell(0, 1, 7, 20);
        Check.due("its spans are right", x.holds(0), 5);
        x.poke(1, 1);
        Check.due("its bytes are right", x.holds(0), 6);
        SignatureSpans y = fileOf(20);
        y.place(4, 7);
        y.sign(3, true, 50);
        y.change(1, 1);
        y.allow(0, 0);
        Check.due("its chain comes before its changes", y.holds(0), 7);
        y.chain(0, 51, 52);
        Check.due("a row that begins behind its time", y.holds(0), 7);
        SignatureSpans z = signed();
        z.change(1, 1);
        z.allow(0, 0);
        Check.due("its changes come last", z.holds(0), 8);
    }

    private static void promise7Span() {
        SignatureSpans x = signed();
        grow(x, 10);
        long[] due = {0, 4, 7, 20};
        for (int n = 0; n < 4; n++) {
            Check.due("span " + n, x.span(0, n / 2, n % 2), due[n]);
        }
        for (int w : new int[] {-1, 2, Integer.MIN_VALUE, Integer.MAX_VALUE}) {
            Check.dueThrow("span i " + w, INDEX, () -> x.span(0, w, 0));
            Check.dueThrow("span side " + w, INDEX, () -> x.span(0, 0, w));
        }
        for (int w : wrongSignatures(1)) {
            Check.dueThrow("span of " + w, NONE, () -> x.span(w, 0, 0));
            Check.dueThrow("span of " + w + ", no such span", NONE, () -> x.span(w, 2, 2));
        }
    }

    private static void promise8Tell() {
        SignatureSpans x = signed();
        x.tell(0, 0, Long.MIN_VALUE, -7);
        Check.due("told begin", x.span(0, 0, 0), Long.MIN_VALUE);
        Check.due("told end", x.span(0, 0, 1), -7);
        Check.due("the other span begins as it did", x.span(0, 1, 0), 7);
        x.tell(0, 1, Long.MAX_VALUE, 1L << 32);
        Check.due("told begin", x.span(0, 1, 0), Long.MAX_VALUE);
        Check.due("told end", x.span(0, 1, 1), 1L << 32);
        Check.due("the first span stays", x.span(0, 0, 1), -7);
        x.tell(0, 0, 1L << 32, 4);
        x.tell(0, 1, 7, 20);
        Check.due("the upper bits of where it begins count", x.holds(0), 2);
        x.tell(0, 0, 0, 4 + (1L << 32));
        Check.due("the upper bits of where it ends count", x.holds(0), 3);
        x.tell(0, 0, 0, 4);
        Check.due("told as it was, it holds", x.holds(0), 1);
        for (int w : new int[] {-1, 2, Integer.MIN_VALUE, Integer.MAX_VALUE}) {
            Check.dueThrow("tell i " + w, INDEX, () -> tell(x, 0, w));
        }
        for (int w : wrongSignatures(1)) {
            Check.dueThrow("tell of " + w, NONE, () -> tell(x, w, 0));
            Check.dueThrow("tell of " + w + ", no such span", NONE, () -> tell(x, w, 2));
        }
        Check.due("a throw changes nothing", x.holds(0), 1);
    }

    private static long tell(SignatureSpans x, int signature, int i) {
        x.tell(signature, i, 99, 99);
        return 0;
    }

    private static void promise9Chain() {
        SignatureSpans x = fileOf(20);
        x.place(4, 7);
        x.place(8, 9);
        x.sign(3, true, 50);
        x.sign(4, true, 50);
        Check.dueThrow("to below from", ARGUMENT, () -> x.chain(0, 50, 49));
        Check.dueThrow("to far below from", ARGUMENT, () -> x.chain(0, Long.MAX_VALUE, Long.MIN_VALUE));
        Check.due("chain", x.chain(0, 50, 50), 1);
        Check.due("chain of its own", x.chain(1, 51, 60), 1);
        Check.due("a row behind its time", x.holds(1), 7);
        Check.due("chain", x.chain(0, 50, 90), 2);
        Check.due("chain", x.chain(0, 10, 50), 3);
        Check.due("both ends count", x.holds(0), 1);
        Check.due("chain", x.chain(0, Long.MIN_VALUE, Long.MAX_VALUE), 4);
        Check.due("the widest row has its time", x.holds(0), 1);
        Check.dueThrow("a fifth row", ROOM, () -> x.chain(0, 0, 1));
        Check.dueThrow("a fifth row that ends before it begins", ARGUMENT, () -> x.chain(0, 1, 0));
        Check.due("a throw changes nothing", x.holds(0), 1);
        for (int w : wrongSignatures(2)) {
            Check.dueThrow("chain of " + w, NONE, () -> x.chain(w, 0, 1));
            Check.dueThrow("chain of " + w + ", wrong row", NONE, () -> x.chain(w, 1, 0));
        }
    }

    private static void promise10Change() {
        SignatureSpans x = new SignatureSpans();
        for (int w : new int[] {-1, 4, Integer.MIN_VALUE, Integer.MAX_VALUE}) {
            Check.dueThrow("change of kind " + w, ARGUMENT, () -> x.change(w, 0));
        }
        for (int w : WRONG_FIELDS) {
            Check.dueThrow("change of field " + w, ARGUMENT, () -> x.change(0, w));
        }
        for (int n = 0; n < 40; n++) {
            Check.due("change", x.change(n % 4, n % 20), n + 1);
        }
        Check.dueThrow("a 41st change", ROOM, () -> x.change(0, 0));
        Check.dueThrow("a 41st change of no kind", ARGUMENT, () -> x.change(4, 0));
    }

    private static void promise11Allow() {
        SignatureSpans x = signed();
        for (int kind = 0; kind < 4; kind++) {
            x.change(kind, 9);
        }
        Check.due("at first all", x.allow(0, 0), 15);
        Check.due("none", x.allow(0, 16 + 5), 0);
        Check.due("the lowest four bits", x.allow(0, 5), 5);
        for (int kind = 0; kind < 4; kind++) {
            Check.due("kind " + kind, x.since(0, kind, 2), kind % 2 == 0 ? 1 : 0);
        }
        x.allow(0, -6);
        for (int kind = 0; kind < 4; kind++) {
            Check.due("kind " + kind, x.since(0, kind, 2), kind % 2);
        }
        Check.due("the lowest four bits of -6", x.allow(0, -1), 10);
        Check.due("all", x.allow(0, Integer.MIN_VALUE), 15);
        Check.due("none of the least number", x.allow(0, 15), 0);
        for (int w : wrongSignatures(1)) {
            Check.dueThrow("allow of " + w, NONE, () -> x.allow(w, 0));
        }
    }

    private static void promise12Lock() {
        SignatureSpans x = signed();
        for (int field = 0; field < 20; field++) {
            x.change(0, field);
            x.change(1, field);
        }
        for (int field : new int[] {0, 19, 7}) {
            Check.due("field " + field + " is free", x.since(0, 2 * field, 2), 1);
            Check.due("lock " + field, x.lock(0, field), 1);
            Check.due("lock " + field + " again", x.lock(0, field), 0);
            Check.due("field " + field + " is locked", x.since(0, 2 * field, 2), 0);
            Check.due("a note is not", x.since(0, 2 * field + 1, 2), 1);
        }
        Check.due("field 8 is free", x.since(0, 16, 2), 1);
        Check.due("a locked field was filled", x.holds(0), 8);
        for (int w : WRONG_FIELDS) {
            Check.dueThrow("lock field " + w, ARGUMENT, () -> x.lock(0, w));
        }
        for (int w : wrongSignatures(1)) {
            Check.dueThrow("lock of " + w, NONE, () -> x.lock(w, 0));
            Check.dueThrow("lock of " + w + ", no field", NONE, () -> x.lock(w, 20));
        }
        SignatureSpans y = fileOf(9);
        y.place(0, 1);
        y.place(2, 3);
        y.sign(0, true, 0);
        y.sign(1, true, 0);
        y.change(0, 5);
        Check.due("lock", y.lock(1, 5), 1);
        Check.due("the lock is that signature's alone", y.since(0, 1, 2), 1);
        Check.due("it is", y.since(1, 0, 2), 0);
    }

    private static void promise13Certify() {
        for (int level = 1; level <= 3; level++) {
            SignatureSpans x = signed();
            for (int kind = 0; kind < 4; kind++) {
                x.change(kind, 9);
            }
            for (int w : new int[] {0, 4, -1, Integer.MIN_VALUE, Integer.MAX_VALUE}) {
                Check.dueThrow("level " + w, ARGUMENT, () -> x.certify(0, w));
            }
            Check.due("certify", x.certify(0, level), 1);
            Check.due("it does already", x.certify(0, level % 3 + 1), 0);
            Check.dueThrow("level 4 of one that does", ARGUMENT, () -> x.certify(0, 4));
            for (int kind = 0; kind < 4; kind++) {
                int due = kind == 0 && level >= 2 || kind == 1 && level == 3 ? 1 : 0;
                Check.due("kind " + kind + " at level " + level, x.since(0, kind, 2), due);
            }
            x.allow(0, 2);
            Check.due("its kinds count too", x.since(0, 0, 2), 0);
            Check.due("and its level", x.since(0, 1, 2), level == 3 ? 1 : 0);
            x.allow(0, 15);
            x.lock(0, 9);
            Check.due("its locks count too", x.since(0, 0, 2), 0);
        }
        SignatureSpans x = fileOf(20);
        x.place(0, 1);
        x.place(2, 3);
        x.sign(0, true, 0);
        x.sign(1, true, 0);
        x.change(3, 3);
        Check.due("it is not signature 0", x.certify(1, 1), 0);
        Check.due("and does not certify", x.since(1, 0, 2), 1);
        Check.dueThrow("it is not signature 0, and no level", ARGUMENT, () -> x.certify(1, 0));
        Check.due("signature 0 still may", x.certify(0, 1), 1);
        for (int w : wrongSignatures(2)) {
            Check.dueThrow("certify of " + w, NONE, () -> x.certify(w, 1));
            Check.dueThrow("certify of " + w + ", no level", NONE, () -> x.certify(w, 4));
        }
    }

    private static void promise14Since() {
        SignatureSpans x = fileOf(20);
        x.place(0, 1);
        x.place(2, 3);
        x.change(3, 18);
        x.sign(7, true, 0);
        Check.due("none since", x.since(0, -1, 0), 0);
        Check.dueThrow("none since", INDEX, () -> x.since(0, 0, 0));
        x.change(2, 19);
        x.sign(8, true, 0);
        x.change(1, 4);
        int[][] due = {{2, 19, 1}, {0, 8, 1}, {1, 4, 1}};
        for (int i = 0; i < 3; i++) {
            for (int what = 0; what < 3; what++) {
                Check.due("since 0, " + i + ", " + what, x.since(0, i, what), due[i][what]);
            }
        }
        Check.due("since 1", x.since(1, 0, 0), 1);
        Check.due("since 1", x.since(1, 0, 1), 4);
        for (int what : new int[] {0, 2, 3, -1, Integer.MIN_VALUE, Integer.MAX_VALUE}) {
            Check.due("how many since 0", x.since(0, -1, what), 3);
            Check.due("how many since 1", x.since(1, -1, what), 1);
        }
        for (int w : new int[] {3, -2, Integer.MIN_VALUE, Integer.MAX_VALUE}) {
            Check.dueThrow("change " + w, INDEX, () -> x.since(0, w, 0));
            Check.dueThrow("change " + w + " since 1", INDEX, () -> x.since(1, w, 0));
        }
        for (int w : new int[] {-1, 3, Integer.MIN_VALUE, Integer.MAX_VALUE}) {
            Check.dueThrow("what " + w, INDEX, () -> x.since(0, 0, w));
        }
        for (int w : wrongSignatures(2)) {
            Check.dueThrow("since " + w, NONE, () -> x.since(w, -1, 0));
            Check.dueThrow("since " + w + ", no change", NONE, () -> x.since(w, 9, 9));
        }
        x.allow(0, 4);
        Check.due("the page is allowed", x.since(0, 0, 2), 1);
        Check.due("the field is not", x.since(0, 1, 2), 0);
    }

    private static void promise15Digest() throws NoSuchAlgorithmException {
        knownDigests();
        for (int many = 0; many <= 260; many++) {
            digestsOfLength(many);
        }
        digestsOfLength(1498);
        digestsOfLength(1499);
        SignatureSpans x = signed();
        for (int w : new int[] {-1, 32, Integer.MIN_VALUE, Integer.MAX_VALUE}) {
            Check.dueThrow("digest byte " + w, ARRAY_INDEX, () -> x.digest(0, w));
        }
        for (int w : wrongSignatures(1)) {
            Check.dueThrow("digest of " + w, NONE, () -> x.digest(w, 0));
            Check.dueThrow("digest of " + w + ", no byte", NONE, () -> x.digest(w, 32));
        }
        byte before = x.digest(0, 0);
        x.poke(0, 255);
        x.add((byte) 1);
        x.tell(0, 0, 1, 2);
        Check.due("the digest is of the bytes as they were", x.digest(0, 0), before);
    }

    /** The examples that the federal standard 180 itself is given with. */
    private static void knownDigests() {
        digestOfText("", "e3b0c44298fc1c149afbf4c8996fb92427ae41e4649b934ca495991b7852b855");
        digestOfText("abc", "ba7816bf8f01cfea414140de5dae2223b00361a396177a9cb410ff61f20015ad");
        digestOfText("abcdbcdecdefdefgefghfghighijhijkijkljklmklmnlmnomnopnopq",
            "248d6a61d20638b8e5c026930c3e6039a33ce45964ff2167f6ecedd419db06c1");
    }

    private static void digestOfText(String text, String want) {
        SignatureSpans x = new SignatureSpans();
        x.add((byte) 77);
        for (byte b : text.getBytes(StandardCharsets.US_ASCII)) {
            x.add(b);
        }
        x.place(0, 1);
        x.sign(0, true, 0);
        StringBuilder got = new StringBuilder();
        for (int i = 0; i < 32; i++) {
            got.append(String.format("%02x", x.digest(0, i)));
        }
        Check.isSo("the digest of \"" + text + "\"", want.equals(got.toString()));
    }

    private static void digestsOfLength(int many) throws NoSuchAlgorithmException {
        SignatureSpans x = fileOf(many + 1);
        int hole = many / 3;
        x.place(hole, hole + 1);
        x.sign(0, true, 0);
        byte[] covered = new byte[many];
        for (int i = 0; i < many; i++) {
            covered[i] = (byte) ((i < hole ? i : i + 1) * 37 + 11);
        }
        byte[] want = MessageDigest.getInstance("SHA-256").digest(covered);
        for (int i = 0; i < 32; i++) {
            Check.due("digest of " + many + ", byte " + i, x.digest(0, i), want[i]);
        }
    }

    private static void promise16Behind() {
        SignatureSpans x = signed();
        Check.due("nothing behind", x.behind(0), 0);
        grow(x, 3);
        Check.due("three behind", x.behind(0), 3);
        x.place(21, 22);
        x.sign(4, true, 0);
        grow(x, 2);
        Check.due("five behind", x.behind(0), 5);
        Check.due("two behind", x.behind(1), 2);
        x.tell(1, 1, 0, 1);
        Check.due("its end is not its span's", x.behind(1), 2);
        for (int w : wrongSignatures(2)) {
            Check.dueThrow("behind " + w, NONE, () -> x.behind(w));
        }
    }

    private static void promise17Stamp() {
        SignatureSpans x = fileOf(3);
        Check.dueThrow("stamp -1", ARGUMENT, () -> x.stamp(-1));
        Check.dueThrow("stamp of the least time", ARGUMENT, () -> x.stamp(Long.MIN_VALUE));
        Check.due("no stamp was made", x.stamped(-1, 0), 0);
        for (int n = 0; n < 10; n++) {
            Check.due("stamp", x.stamp(n % 2 == 0 ? 0 : Long.MAX_VALUE), n);
        }
        Check.dueThrow("an eleventh stamp", ROOM, () -> x.stamp(0));
        Check.dueThrow("an eleventh stamp of no time", ARGUMENT, () -> x.stamp(-1));
        Check.due("there are ten", x.stamped(-1, 0), 10);
    }

    private static void promise18Stamped() {
        SignatureSpans x = new SignatureSpans();
        long[] times = {5, 3, 5, Long.MAX_VALUE, 0, 3};
        for (long time : times) {
            x.stamp(time);
            grow(x, 30);
        }
        int[] order = {4, 1, 5, 0, 2, 3};
        for (int i = 0; i < 6; i++) {
            Check.due("number of " + i, x.stamped(i, 0), order[i]);
            Check.due("time of " + i, x.stamped(i, 1), times[order[i]]);
            Check.due("bytes of " + i, x.stamped(i, 2), 30 * order[i]);
            Check.due("good " + i, x.stamped(i, 3), 1);
        }
        x.poke(89, 1);
        for (int i = 0; i < 6; i++) {
            Check.due("good " + i + " but for byte 89", x.stamped(i, 3), order[i] < 3 ? 1 : 0);
        }
        x.poke(89, 1);
        x.poke(90, 1);
        for (int i = 0; i < 6; i++) {
            Check.due("good " + i + " but for byte 90", x.stamped(i, 3), order[i] < 4 ? 1 : 0);
        }
        x.poke(90, 1);
        x.place(1, 2);
        x.poke(1, 1);
        Check.due("a stamp leaves no place out", x.stamped(0, 3), 0);
        for (int what : new int[] {0, 3, 4, -1, Integer.MIN_VALUE, Integer.MAX_VALUE}) {
            Check.due("how many stamps", x.stamped(-1, what), 6);
        }
        for (int w : new int[] {6, 10, -2, Integer.MIN_VALUE, Integer.MAX_VALUE}) {
            Check.dueThrow("stamped " + w, INDEX, () -> x.stamped(w, 0));
        }
        for (int w : new int[] {4, -1, Integer.MIN_VALUE, Integer.MAX_VALUE}) {
            Check.dueThrow("stamped what " + w, INDEX, () -> x.stamped(0, w));
        }
    }
}
