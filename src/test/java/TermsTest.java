import java.lang.reflect.InvocationTargetException;
import java.security.MessageDigest;
import java.security.NoSuchAlgorithmException;
import java.util.Arrays;

/** The document's "Terms": a method for each sentence there that has a boundary, just inside it and just outside it. */
final class TermsTest {
    private static final long LOWEST = Long.MIN_VALUE;
    private static final long HIGHEST = Long.MAX_VALUE;
    private static final long WRAP = 1L << 32;

    public static void main(String[] args) throws IllegalAccessException, InvocationTargetException {
        Boundary.runAll(TermsTest.class);
        Check.end();
    }

    /** A file of so many bytes, a place, and signature 0 at time 50 with a chain of one row that has it. */
    private static SignatureSpans signedRound(int many, int from, int to) {
        SignatureSpans x = Boundary.fileOf(many);
        x.place(from, to);
        x.sign(3, true, 50);
        x.chain(0, 50, 50);
        return x;
    }

    private static byte[] sha256(byte[] bytes) {
        try {
            return MessageDigest.getInstance("SHA-256").digest(bytes);
        } catch (NoSuchAlgorithmException e) {
            throw new IllegalStateException(e);
        }
    }

    private static byte[] digestOf(SignatureSpans x, int signature) {
        byte[] got = new byte[32];
        for (int i = 0; i < 32; i++) {
            got[i] = x.digest(signature, i);
        }
        return got;
    }

    // "each has the latest PLACE that none has yet"

    private static void signatureHasTheLatestPlaceThatNoneHas() {
        SignatureSpans x = Boundary.fileOf(20);
        x.place(12, 13);
        x.place(16, 17);
        x.place(4, 5);
        x.sign(0, true, 0);
        Check.due("the latest one, not the last in the file", x.span(0, 0, 1), 4);
        x.sign(1, true, 0);
        Check.due("the latest one but it", x.span(1, 0, 1), 16);
        x.place(8, 9);
        x.sign(2, true, 0);
        Check.due("a new one is the latest", x.span(2, 0, 1), 8);
        x.sign(3, true, 0);
        Check.due("the first one is left", x.span(3, 0, 1), 12);
        Check.dueThrow("none is left", Boundary.STATE, () -> x.sign(4, true, 0));
    }

    private static void refusedSignatureTakesNoPlace() {
        SignatureSpans x = Boundary.placedTimes(2);
        Check.dueThrow("no such field", Boundary.ARGUMENT, () -> x.sign(20, true, 0));
        Check.dueThrow("no such time", Boundary.ARGUMENT, () -> x.sign(0, true, -1));
        x.sign(0, true, 0);
        Check.due("the latest place is still there", x.span(0, 0, 1), 5);
        Check.dueThrow("the field has one", Boundary.STATE, () -> x.sign(0, true, 0));
        x.sign(1, true, 0);
        Check.due("and the other one", x.span(1, 0, 1), 1);
    }

    private static void placeMayComeBehindASignaturesEnd() {
        SignatureSpans x = Boundary.fileOf(4);
        x.place(0, 1);
        x.sign(0, true, 0);
        Boundary.grow(x, 4);
        x.place(3, 6);
        x.sign(1, true, 0);
        Check.due("it ends at the file's end", x.span(1, 1, 1), 8);
        Check.due("the first one stays", x.span(0, 1, 1), 4);
    }

    /** A place that none has stays one, though the file has grown behind it. */
    private static void placeWaitsForItsSignature() {
        SignatureSpans x = Boundary.fileOf(2);
        x.place(0, 2);
        Boundary.grow(x, 3);
        x.sign(0, true, 0);
        Check.due("its end is now, not when its place was made", x.span(0, 1, 1), 5);
        Check.due("nothing is behind", x.behind(0), 0);
    }

    // "its END: how many bytes the file has then"; "SPANS are at first from 0 to its place, and from behind that to its end"

    private static void spansAtFirst() {
        int[][] places = {{4, 7}, {0, 1}, {0, 7}, {19, 20}, {4, 20}, {0, 20}};
        for (int[] p : places) {
            SignatureSpans x = signedRound(20, p[0], p[1]);
            String round = "round " + Arrays.toString(p);
            Check.due(round, x.span(0, 0, 0), 0);
            Check.due(round, x.span(0, 0, 1), p[0]);
            Check.due(round, x.span(0, 1, 0), p[1]);
            Check.due(round, x.span(0, 1, 1), 20);
            Check.due(round + " it holds", x.holds(0), 1);
            x.add((byte) 1);
            Check.due(round + " its end stays", x.span(0, 1, 1), 20);
            Check.due(round + " it holds still", x.holds(0), 1);
        }
    }

    private static void endOfAFullFile() {
        SignatureSpans x = signedRound(1500, 700, 701);
        Check.due("its end", x.span(0, 1, 1), 1500);
        Check.due("it holds", x.holds(0), 1);
        x.tell(0, 1, 701, 1499);
        Check.due("one byte less", x.holds(0), 4);
        x.tell(0, 1, 701, 1501);
        Check.due("one byte more", x.holds(0), 4);
    }

    // "Its DIGEST is SHA-256 of the bytes from 0 to its end but its place, as they are when it is made."

    private static void digestOfEveryLengthAroundABlock() {
        int[] lengths = {0, 1, 54, 55, 56, 57, 62, 63, 64, 65, 118, 119, 120, 121, 127, 128, 129, 503, 504, 511, 512, 1463, 1464,
            1471, 1472, 1498, 1499};
        for (int many : lengths) {
            for (int hole : new int[] {0, many / 2, many}) {
                SignatureSpans x = signedRound(many + 1, hole, hole + 1);
                byte[] covered = new byte[many];
                for (int i = 0; i < many; i++) {
                    covered[i] = Boundary.byteAt(i < hole ? i : i + 1);
                }
                Check.isSo("the digest of " + many + " bytes", Arrays.equals(digestOf(x, 0), sha256(covered)));
                Check.due("it holds", x.holds(0), 1);
            }
        }
    }

    private static void digestLeavesOutItsOwnPlaceAlone() {
        SignatureSpans x = Boundary.fileOf(10);
        x.place(2, 4);
        x.place(6, 7);
        x.sign(0, true, 50);
        x.chain(0, 50, 50);
        byte[] covered = {0, 1, 2, 3, 4, 5, 7, 8, 9};
        for (int n = 0; n < covered.length; n++) {
            covered[n] = Boundary.byteAt(covered[n]);
        }
        Check.isSo("the digest with another place's bytes", Arrays.equals(digestOf(x, 0), sha256(covered)));
        x.poke(2, 1);
        Check.due("another place's bytes count", x.holds(0), 5);
    }

    private static void digestAsTheyAreWhenItIsMade() {
        SignatureSpans x = Boundary.fileOf(10);
        x.place(2, 4);
        x.poke(9, 77);
        x.sign(0, true, 50);
        byte[] before = digestOf(x, 0);
        byte[] covered = new byte[8];
        for (int i = 0; i < 8; i++) {
            covered[i] = Boundary.byteAt(i < 2 ? i : i + 2);
        }
        covered[7] ^= 77;
        Check.isSo("the digest as poked before", Arrays.equals(before, sha256(covered)));
        x.poke(0, 255);
        x.add((byte) 4);
        x.tell(0, 0, 5, 6);
        x.place(4, 5);
        x.stamp(1);
        x.sign(1, true, 50);
        Check.isSo("that it stays", Arrays.equals(digestOf(x, 0), before));
    }

    private static void spansThatAreToldDoNotChangeTheDigestsBytes() {
        SignatureSpans x = signedRound(20, 4, 7);
        x.tell(0, 0, 0, 20);
        x.poke(4, 1);
        x.tell(0, 0, 0, 4);
        Check.due("its place is still left out", x.holds(0), 1);
    }

    // "A CHAIN has rows, from a time to another one (both count)."; 7 "its chain has a row that does not have its time (or it
    // has none)"

    private static void chainBothCount() {
        long[] times = {0, 1, 50, WRAP, HIGHEST - 1, HIGHEST};
        for (long time : times) {
            long before = time == 0 ? -1 : time - 1;
            chainRow(time, time, time, 1);
            chainRow(time, before, time, 1);
            chainRow(time, LOWEST, time, 1);
            chainRow(time, time, HIGHEST, 1);
            chainRow(time, LOWEST, HIGHEST, 1);
            chainRow(time, LOWEST, before, 7);
            chainRow(time, before, before, 7);
            if (time != HIGHEST) {
                chainRow(time, time, time + 1, 1);
                chainRow(time, time + 1, time + 1, 7);
                chainRow(time, time + 1, HIGHEST, 7);
            }
        }
    }

    private static void chainRow(long time, long from, long to, int due) {
        SignatureSpans x = Boundary.placedTimes(1);
        x.sign(0, true, time);
        x.chain(0, from, to);
        Check.due("time " + time + " in " + from + " to " + to, x.holds(0), due);
    }

    private static void chainHasNone() {
        SignatureSpans x = Boundary.placedTimes(2);
        x.sign(0, true, 50);
        x.sign(1, true, 50);
        Check.due("no row", x.holds(0), 7);
        x.chain(1, 50, 50);
        Check.due("another one's row", x.holds(0), 7);
        x.chain(0, 50, 50);
        Check.due("one row", x.holds(0), 1);
    }

    private static void chainEachRowMustHaveItsTime() {
        for (int rows = 1; rows <= 4; rows++) {
            for (int wrong = -1; wrong < rows; wrong++) {
                SignatureSpans x = Boundary.placedTimes(1);
                x.sign(0, true, 50);
                for (int row = 0; row < rows; row++) {
                    x.chain(0, 50, 50);
                }
                Check.due("all rows have it", x.holds(0), 1);
                SignatureSpans y = Boundary.placedTimes(1);
                y.sign(0, true, 50);
                for (int row = 0; row < rows; row++) {
                    y.chain(0, row == wrong ? 51 : 50, 60);
                }
                Check.due("row " + wrong + " of " + rows + " does not", y.holds(0), wrong < 0 ? 1 : 7);
            }
        }
    }

    // "each signature but the first one is a change of kind 0 of its field, too, when it is made. Those that come behind a
    // signature is made are SINCE it."

    private static void firstSignatureIsNoChange() {
        SignatureSpans x = Boundary.placedTimes(1);
        x.sign(7, true, 0);
        Check.due("none since it", x.since(0, -1, 0), 0);
        Check.due("none at all", x.change(1, 0), 1);
    }

    private static void laterSignaturesAreChanges() {
        SignatureSpans x = Boundary.placedTimes(8);
        for (int n = 0; n < 8; n++) {
            x.sign(19 - n, true, 0);
        }
        for (int s = 0; s < 8; s++) {
            Check.due("since " + s, x.since(s, -1, 0), 7 - s);
            for (int i = 0; i < 7 - s; i++) {
                Check.due("kind", x.since(s, i, 0), 0);
                Check.due("field", x.since(s, i, 1), 18 - s - i);
                Check.due("allowed", x.since(s, i, 2), 1);
            }
        }
    }

    private static void ownChangeIsNotSinceIt() {
        SignatureSpans x = Boundary.placedTimes(2);
        x.sign(0, true, 50);
        x.sign(1, true, 50);
        x.chain(1, 50, 50);
        x.allow(1, 0);
        Check.due("its own change is not since it", x.holds(1), 1);
        x.change(0, 1);
        Check.due("the same one behind it is", x.holds(1), 8);
    }

    private static void changesBeforeItAreNotSinceIt() {
        SignatureSpans x = Boundary.placedTimes(1);
        x.change(3, 3);
        x.sign(0, true, 50);
        x.chain(0, 50, 50);
        x.allow(0, 0);
        Check.due("none since it", x.since(0, -1, 0), 0);
        Check.due("it holds", x.holds(0), 1);
        x.change(3, 3);
        Check.due("one since it", x.since(0, -1, 0), 1);
        Check.due("it does not hold", x.holds(0), 8);
    }

    private static void laterSignatureBreaksOneThatAllowsNone() {
        SignatureSpans x = Boundary.placedTimes(2);
        x.sign(0, true, 50);
        x.chain(0, 50, 50);
        x.certify(0, 1);
        Check.due("it holds alone", x.holds(0), 1);
        x.sign(1, true, 50);
        Check.due("a second one is a change", x.holds(0), 8);
    }

    // "It ALLOWS one, if its kind is among those that it allows (at first all); it, if it CERTIFIES, is 0 for level 2, 0 or 1
    // for level 3 (none for level 1); and it is not of kind 0 with a field that the signature LOCKS."

    private static SignatureSpans changedInEachKind() {
        SignatureSpans x = signedRound(20, 4, 7);
        for (int kind = 0; kind < 4; kind++) {
            x.change(kind, 9);
            x.change(kind, 10);
        }
        return x;
    }

    private static void allowsAtFirstAll() {
        SignatureSpans x = changedInEachKind();
        for (int i = 0; i < 8; i++) {
            Check.due("change " + i, x.since(0, i, 2), 1);
        }
        Check.due("it holds", x.holds(0), 1);
    }

    /** Every set of kinds with every level, and with a lock or none. */
    private static void allowsByKindsLevelAndLocks() {
        for (int kinds = 0; kinds < 16; kinds++) {
            for (int level = 0; level <= 3; level++) {
                for (int locked = 0; locked < 2; locked++) {
                    allowsBy(kinds, level, locked == 1);
                }
            }
        }
    }

    private static void allowsBy(int kinds, int level, boolean locked) {
        SignatureSpans x = changedInEachKind();
        x.allow(0, kinds);
        if (level > 0) {
            x.certify(0, level);
        }
        if (locked) {
            x.lock(0, 10);
        }
        boolean all = true;
        for (int i = 0; i < 8; i++) {
            int kind = i / 2;
            boolean byLevel = level == 0 || level == 2 && kind == 0 || level == 3 && kind <= 1;
            boolean byLock = !(locked && kind == 0 && i % 2 == 1);
            boolean allowed = (kinds >> kind & 1) == 1 && byLevel && byLock;
            all = all && allowed;
            Check.due("kinds " + kinds + ", level " + level + ", change " + i, x.since(0, i, 2), allowed ? 1 : 0);
        }
        Check.due("kinds " + kinds + ", level " + level + ", holds", x.holds(0), all ? 1 : 8);
    }

    private static void locksAndLevelsCountForChangesBeforeThem() {
        SignatureSpans x = signedRound(20, 4, 7);
        x.change(0, 9);
        Check.due("it holds", x.holds(0), 1);
        x.lock(0, 8);
        Check.due("another field is locked", x.holds(0), 1);
        x.lock(0, 9);
        Check.due("its field is locked later", x.holds(0), 8);
        SignatureSpans y = signedRound(20, 4, 7);
        y.change(1, 9);
        y.certify(0, 2);
        Check.due("it certifies later", y.holds(0), 8);
    }

    private static void laterSignatureOfALockedField() {
        for (int field = 0; field < 2; field++) {
            SignatureSpans x = Boundary.placedTimes(2);
            x.sign(5, true, 50);
            x.chain(0, 50, 50);
            x.lock(0, 0);
            Check.due("a lock is no bar", x.sign(field, true, 50), 1);
            Check.due("it fills field " + field, x.holds(0), field == 0 ? 8 : 1);
        }
    }

    private static void anyChangeOfForty() {
        for (int bad = 0; bad < 40; bad++) {
            SignatureSpans x = signedRound(20, 4, 7);
            x.allow(0, 7);
            for (int n = 0; n < 40; n++) {
                x.change(n == bad ? 3 : n % 3, n % 20);
            }
            Check.due("change " + bad + " is not allowed", x.holds(0), 8);
            Check.due("that one", x.since(0, bad, 2), 0);
            Check.due("the one beside it", x.since(0, bad == 0 ? 1 : bad - 1, 2), 1);
            x.allow(0, 15);
            Check.due("all are", x.holds(0), 1);
        }
    }

    // "A signature HOLDS, unless one of these is so: 2 .. 8"

    private static void holds2FirstSpanDoesNotBeginAt0() {
        for (long from : new long[] {1, -1, 4, WRAP, LOWEST, HIGHEST}) {
            SignatureSpans x = signedRound(20, 4, 7);
            x.tell(0, 0, from, 4);
            Check.due("it begins at " + from, x.holds(0), 2);
            x.tell(0, 0, 0, 4);
            Check.due("it begins at 0", x.holds(0), 1);
        }
    }

    private static void holds3FirstSpanDoesNotEndWhereItsPlaceBegins() {
        for (long to : new long[] {3, 5, 0, 7, 20, -4, 4 + WRAP, LOWEST, HIGHEST}) {
            SignatureSpans x = signedRound(20, 4, 7);
            x.tell(0, 0, 0, to);
            Check.due("it ends at " + to, x.holds(0), 3);
            x.tell(0, 0, 0, 4);
            Check.due("it ends at 4", x.holds(0), 1);
        }
    }

    private static void holds3SecondSpanDoesNotBeginWhereItEnds() {
        for (long from : new long[] {6, 8, 0, 4, 20, -7, 7 + WRAP, LOWEST, HIGHEST}) {
            SignatureSpans x = signedRound(20, 4, 7);
            x.tell(0, 1, from, 20);
            Check.due("it begins at " + from, x.holds(0), 3);
            x.tell(0, 1, 7, 20);
            Check.due("it begins at 7", x.holds(0), 1);
        }
    }

    private static void holds4SecondSpanDoesNotEndAtItsEnd() {
        for (long to : new long[] {19, 21, 22, 7, 0, -20, 20 + WRAP, LOWEST, HIGHEST}) {
            SignatureSpans x = signedRound(20, 4, 7);
            Boundary.grow(x, 2);
            x.tell(0, 1, 7, to);
            Check.due("it ends at " + to, x.holds(0), 4);
            x.tell(0, 1, 7, 20);
            Check.due("it ends at 20", x.holds(0), 1);
        }
    }

    /** Each bit of each byte: those from 0 to its end but its place count, and no other. */
    private static void holds5BytesHaveAnotherDigest() {
        SignatureSpans x = signedRound(20, 4, 7);
        Boundary.grow(x, 3);
        for (int at = 0; at < 23; at++) {
            boolean counts = at < 4 || at >= 7 && at < 20;
            for (int bit = 0; bit < 8; bit++) {
                x.poke(at, 1 << bit);
                Check.due("bit " + bit + " of byte " + at, x.holds(0), counts ? 5 : 1);
                x.poke(at, 1 << bit);
                Check.due("as it was", x.holds(0), 1);
            }
        }
        x.poke(19, 256);
        Check.due("a mask of no low bit", x.holds(0), 1);
    }

    private static void holds6VerdictIsNotGood() {
        for (int good = 0; good < 2; good++) {
            SignatureSpans x = Boundary.placedTimes(1);
            x.sign(0, good == 1, 50);
            x.chain(0, 50, 50);
            Check.due("verdict " + (good == 1), x.holds(0), good == 1 ? 1 : 6);
        }
    }

    /** Every set of the seven faults: the first number of it is told. */
    private static void holdsTellsTheFirstNumber() {
        for (int set = 0; set < 1 << 7; set++) {
            SignatureSpans x = Boundary.fileOf(20);
            x.place(4, 7);
            x.sign(3, !has(set, 6), 50);
            if (!has(set, 7)) {
                x.chain(0, 50, 50);
            }
            if (has(set, 8)) {
                x.change(1, 1);
                x.allow(0, 1);
            }
            if (has(set, 5)) {
                x.poke(19, 1);
            }
            x.tell(0, 0, has(set, 2) ? 1 : 0, 4);
            x.tell(0, 1, has(set, 3) ? 8 : 7, has(set, 4) ? 19 : 20);
            Check.due("faults " + Integer.toBinaryString(set), x.holds(0), set == 0 ? 1 : Integer.numberOfTrailingZeros(set) + 2);
        }
    }

    private static boolean has(int set, int number) {
        return (set >> (number - 2) & 1) == 1;
    }

    /** A second signature with a place of its own, inside the first one's span. */
    private static void holdsOfEachSignatureByItself() {
        SignatureSpans x = Boundary.signedTimes(3);
        x.poke(5, 1);
        Check.due("byte 5 counts for the first one", x.holds(0), 5);
        Check.due("it is the second one's place", x.holds(1), 1);
        Check.due("byte 5 counts for the third one", x.holds(2), 5);
        x.poke(5, 1);
        x.tell(2, 0, 1, 2);
        Check.due("told of the third one alone", x.holds(0) * 100 + x.holds(1) * 10 + x.holds(2), 112);
    }

    // "STAMPS have a time, how many bytes the file has then, and SHA-256 of these. In ORDER they are by times, of one time as
    // they came. One is GOOD, if those bytes still have that digest."

    private static void stampsOrderByTimes() {
        long[] times = {7, 0, HIGHEST, 6, 8, WRAP, WRAP - 1, 1, HIGHEST - 1, 5};
        SignatureSpans x = new SignatureSpans();
        for (int many = 1; many <= 10; many++) {
            x.stamp(times[many - 1]);
            long[] sorted = Arrays.copyOf(times, many);
            Arrays.sort(sorted);
            for (int i = 0; i < many; i++) {
                Check.due("time " + i + " of " + many, x.stamped(i, 1), sorted[i]);
                Check.due("its number's time", times[(int) x.stamped(i, 0)], sorted[i]);
            }
        }
    }

    private static void stampsOfOneTimeAsTheyCame() {
        SignatureSpans x = new SignatureSpans();
        for (int n = 0; n < 10; n++) {
            x.stamp(4);
            x.add((byte) n);
        }
        for (int i = 0; i < 10; i++) {
            Check.due("stamp " + i, x.stamped(i, 0), i);
            Check.due("its bytes", x.stamped(i, 2), i);
        }
        SignatureSpans y = new SignatureSpans();
        for (long time : new long[] {2, 1, 2, 1, 0, 2, 0, 1}) {
            y.stamp(time);
        }
        int[] due = {4, 6, 1, 3, 7, 0, 2, 5};
        for (int i = 0; i < due.length; i++) {
            Check.due("stamp " + i, y.stamped(i, 0), due[i]);
        }
    }

    private static void stampOfNoByteIsAlwaysGood() {
        SignatureSpans x = new SignatureSpans();
        x.stamp(0);
        Check.due("good", x.stamped(0, 3), 1);
        Boundary.grow(x, 3);
        x.poke(0, 1);
        Check.due("good still", x.stamped(0, 3), 1);
        Check.due("of no byte", x.stamped(0, 2), 0);
    }

    private static void stampIsGoodIfThoseBytesStillHaveThatDigest() {
        SignatureSpans x = Boundary.fileOf(64);
        x.stamp(0);
        Boundary.grow(x, 2);
        for (int at = 0; at < 66; at++) {
            x.poke(at, 128);
            Check.due("byte " + at, x.stamped(0, 3), at < 64 ? 0 : 1);
            x.poke(at, 128);
            Check.due("as it was", x.stamped(0, 3), 1);
        }
        Check.due("of 64 bytes", x.stamped(0, 2), 64);
    }

    private static void stampLeavesOutNoPlace() {
        SignatureSpans x = signedRound(20, 4, 7);
        x.stamp(0);
        x.poke(5, 1);
        Check.due("the signature holds", x.holds(0), 1);
        Check.due("the stamp is not good", x.stamped(0, 3), 0);
    }

    private static void stampOfAFileThatHasBeenChanged() {
        SignatureSpans x = Boundary.fileOf(20);
        x.stamp(9);
        x.poke(0, 1);
        x.stamp(1);
        Check.due("the second one is good", x.stamped(0, 3), 1);
        Check.due("the first one is not", x.stamped(1, 3), 0);
        x.poke(0, 1);
        Check.due("the second one is not", x.stamped(0, 3), 0);
        Check.due("the first one is", x.stamped(1, 3), 1);
    }

    private static void stampsAreNoChanges() {
        SignatureSpans x = signedRound(20, 4, 7);
        x.allow(0, 0);
        for (int n = 0; n < 10; n++) {
            x.stamp(n);
        }
        Check.due("none since the signature", x.since(0, -1, 0), 0);
        Check.due("it holds", x.holds(0), 1);
    }
}
