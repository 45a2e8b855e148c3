import java.lang.reflect.InvocationTargetException;
import java.util.Arrays;

/**
 * Promises 1 to 18: a method for each sentence that names a boundary case, with the promise's number. Each stands just inside
 * the boundary, just outside it, and, where the call is refused, sees that nothing has changed.
 */
final class BoundariesTest {
    private static final int LOW = Integer.MIN_VALUE;
    private static final int HIGH = Integer.MAX_VALUE;
    private static final long LOWEST = Long.MIN_VALUE;
    private static final long HIGHEST = Long.MAX_VALUE;
    /** What an int makes 0 of. */
    private static final long WRAP = 1L << 32;
    private static final int[] WRONG_FIELDS = {-1, 20, 31, 32, 32 + 19, LOW, HIGH};

    public static void main(String[] args) throws IllegalAccessException, InvocationTargetException {
        Boundary.runAll(BoundariesTest.class);
        Check.end();
    }

    // Promise 1: "An empty file."

    private static void p01AnEmptyFile() {
        Boundary.Maker maker = SignatureSpans::new;
        Boundary.refused("it has no byte", Boundary.INDEX, maker, x -> x.poke(0, 0));
        Boundary.refused("it has no byte for a place", Boundary.ARGUMENT, maker, x -> x.place(0, 1));
        Boundary.refused("it has no row of no byte", Boundary.ARGUMENT, maker, x -> x.place(0, 0));
        Boundary.answers("it has room for 1,500 bytes", maker, x -> {
            Boundary.grow(x, 1499);
            return x.add((byte) 0);
        });
        SignatureSpans x = maker.make();
        x.stamp(0);
        Check.due("a stamp is of no byte", x.stamped(0, 2), 0);
        Check.due("its first byte", x.add((byte) 0), 1);
    }

    private static void p01NothingElseIsThere() {
        Boundary.Maker maker = SignatureSpans::new;
        Boundary.onlyTells("it has no stamp", maker, 0, x -> x.stamped(-1, 0));
        Boundary.refused("it has no stamp 0", Boundary.INDEX, maker, x -> x.stamped(0, 0));
        Boundary.refused("it has no place", Boundary.STATE, maker, x -> x.sign(0, true, 0));
        Boundary.refused("it has no signature", Boundary.NONE, maker, x -> x.holds(0));
        Check.due("its first change", maker.make().change(0, 0), 1);
        Check.due("its first stamp", maker.make().stamp(0), 0);
    }

    private static void p01ObjectsAreApart() {
        SignatureSpans x = Boundary.some();
        Boundary.full();
        Check.isSo("that another object changes nothing", Portrait.of(x).equals(Portrait.of(Boundary.some())));
        Check.isSo("that a new one is new", Portrait.of(new SignatureSpans()).equals(Portrait.of(new SignatureSpans())));
    }

    // Promise 2: "A byte behind the file: how many it has. UnsupportedOperationException when it has 1,500."

    private static void p02HowManyItHas() {
        SignatureSpans x = new SignatureSpans();
        int[] bytes = {-128, -1, 0, 1, 127};
        for (int n = 0; n < bytes.length; n++) {
            Check.due("add " + bytes[n], x.add((byte) bytes[n]), n + 1);
            Check.due("it stands behind", x.poke(n, 0), bytes[n] & 255);
        }
        for (int n = 0; n < bytes.length; n++) {
            Check.due("byte " + n + " stays", x.poke(n, 0), bytes[n] & 255);
        }
    }

    private static void p02WhenItHas1500() {
        Check.due("the 1,500th byte", Boundary.fileOf(1499).add((byte) 7), 1500);
        Boundary.refused("the 1,501st byte", Boundary.ROOM, () -> Boundary.fileOf(1500), x -> x.add((byte) 7));
        SignatureSpans x = Boundary.fileOf(1500);
        for (int n = 0; n < 3; n++) {
            Check.dueThrow("each one more", Boundary.ROOM, () -> x.add((byte) 7));
        }
    }

    private static void p02AFullFileStillDoesAllElse() {
        SignatureSpans x = Boundary.fileOf(1500);
        Check.due("its last byte", x.poke(1499, 0), Boundary.byteAt(1499) & 255);
        Check.due("a place at its end", x.place(1499, 1500), 0);
        Check.due("sign", x.sign(0, true, 0), 0);
        Check.due("span", x.span(0, 1, 1), 1500);
        Check.due("behind", x.behind(0), 0);
        Check.due("stamp", x.stamp(0), 0);
        Check.due("of all bytes", x.stamped(0, 2), 1500);
        Check.due("good", x.stamped(0, 3), 1);
        x.poke(1499, 1);
        Check.due("its last byte counts", x.stamped(0, 3), 0);
    }

    // Promise 3: "Byte i of the file becomes it xor mask (the lowest eight bits): 0 .. 255. IndexOutOfBoundsException."

    private static void p03NoSuchByte() {
        for (int many : new int[] {1, 2, 40, 1500}) {
            Boundary.Maker maker = () -> Boundary.fileOf(many);
            Check.due("the first byte of " + many, maker.make().poke(0, 0), Boundary.byteAt(0) & 255);
            Check.due("the last byte of " + many, maker.make().poke(many - 1, 0), Boundary.byteAt(many - 1) & 255);
            for (long i : new long[] {many, -1, many + 1, WRAP, WRAP + many - 1, -WRAP, LOWEST, HIGHEST}) {
                Boundary.refused("byte " + i + " of " + many, Boundary.INDEX, maker, x -> x.poke(i, 255));
            }
        }
        Boundary.refused("byte 1500", Boundary.INDEX, () -> Boundary.fileOf(1499), x -> x.poke(1499, 1));
    }

    private static void p03TheLowestEightBits() {
        int[] masks = {0, 1, 127, 128, 255, 256, 257, 0x180, 0xff00, -1, -128, -256, LOW, HIGH};
        SignatureSpans x = Boundary.fileOf(256);
        for (int mask : masks) {
            for (int i = 0; i < 256; i++) {
                int before = x.poke(i, 0);
                int due = before ^ Math.floorMod(mask, 256);
                Check.due("byte " + before + " by " + mask, x.poke(i, mask), due);
                Check.due("byte " + before + " by " + mask + " stays", x.poke(i, 0), due);
            }
        }
    }

    private static void p03OneByteAlone() {
        SignatureSpans x = Boundary.fileOf(3);
        x.poke(1, 255);
        Check.due("the byte before", x.poke(0, 0), Boundary.byteAt(0) & 255);
        Check.due("the byte", x.poke(1, 0), ~Boundary.byteAt(1) & 255);
        Check.due("the byte behind", x.poke(2, 0), Boundary.byteAt(2) & 255);
        Boundary.onlyTells("mask 0", Boundary::some, Boundary.byteAt(8) & 255, y -> y.poke(8, 0));
    }

    // Promise 4: "IllegalArgumentException when it is not in the file, has no byte, or shares one with another place;
    // UnsupportedOperationException when there are 8."

    private static void p04NotInTheFile() {
        Boundary.Maker maker = () -> Boundary.fileOf(30);
        Check.due("from the first byte", maker.make().place(0, 2), 0);
        Check.due("to the last byte", maker.make().place(28, 30), 0);
        Check.due("the whole file", maker.make().place(0, 30), 0);
        long[][] wrong = {{-1, 2}, {-1, 30}, {28, 31}, {29, 31}, {0, 31}, {30, 31}, {31, 32}, {-2, -1}, {-1, 0}, {WRAP, WRAP + 1},
            {WRAP, 1}, {0, WRAP + 1}, {-WRAP, 2}, {LOWEST, 1}, {0, HIGHEST}, {LOWEST, HIGHEST}, {HIGHEST - 1, HIGHEST}};
        for (long[] w : wrong) {
            Boundary.refused("place " + Arrays.toString(w), Boundary.ARGUMENT, maker, x -> x.place(w[0], w[1]));
        }
    }

    private static void p04TheFileGrows() {
        SignatureSpans x = Boundary.fileOf(3);
        Check.dueThrow("byte 3 is not there yet", Boundary.ARGUMENT, () -> x.place(2, 4));
        x.add((byte) 1);
        Check.due("byte 3 is there", x.place(2, 4), 0);
    }

    private static void p04HasNoByte() {
        Boundary.Maker maker = () -> Boundary.fileOf(30);
        Check.due("one byte", maker.make().place(5, 6), 0);
        Check.due("the first byte", maker.make().place(0, 1), 0);
        Check.due("the last byte", maker.make().place(29, 30), 0);
        long[][] wrong = {{0, 0}, {5, 5}, {29, 29}, {30, 30}, {6, 5}, {30, 0}, {30, 29}, {1, 0}, {HIGHEST, LOWEST},
            {HIGHEST, 0}, {0, LOWEST}, {5, WRAP + 5}, {6, WRAP + 5}, {5, 6 - WRAP}};
        for (long[] w : wrong) {
            Boundary.refused("place " + Arrays.toString(w), Boundary.ARGUMENT, maker, x -> x.place(w[0], w[1]));
        }
    }

    private static SignatureSpans placedTenToFourteen() {
        SignatureSpans x = Boundary.fileOf(30);
        x.place(10, 14);
        return x;
    }

    private static void p04SharesOne() {
        Boundary.Maker maker = BoundariesTest::placedTenToFourteen;
        for (long[] r : new long[][] {{9, 10}, {0, 10}, {14, 15}, {14, 30}}) {
            Check.due("place " + Arrays.toString(r), maker.make().place(r[0], r[1]), 1);
        }
        for (long[] w : new long[][] {{9, 11}, {0, 11}, {13, 15}, {13, 30}, {10, 11}, {13, 14}, {11, 13}, {10, 14}, {9, 15},
            {0, 30}}) {
            Boundary.refused("place " + Arrays.toString(w), Boundary.ARGUMENT, maker, x -> x.place(w[0], w[1]));
        }
    }

    private static void p04SharesOneOfASignature() {
        Boundary.Maker maker = () -> Boundary.signedTimes(2);
        Boundary.refused("the first one's", Boundary.ARGUMENT, maker, x -> x.place(0, 2));
        Boundary.refused("the second one's", Boundary.ARGUMENT, maker, x -> x.place(6, 7));
        Check.due("between them", maker.make().place(3, 5), 2);
    }

    /** Every row of a small file, by a table of its bytes. */
    private static void p04EveryRow() {
        boolean[] has = new boolean[12];
        Arrays.fill(has, 3, 5, true);
        has[8] = true;
        for (int from = -2; from <= 14; from++) {
            for (int to = -2; to <= 14; to++) {
                SignatureSpans x = Boundary.fileOf(12);
                x.place(8, 9);
                x.place(3, 5);
                boolean free = from >= 0 && to <= 12 && from < to;
                for (int i = from; free && i < to; i++) {
                    free = !has[i];
                }
                int begin = from;
                int behind = to;
                if (free) {
                    Check.due("place " + from + " to " + to, x.place(from, to), 2);
                } else {
                    Check.dueThrow("place " + from + " to " + to, Boundary.ARGUMENT, () -> x.place(begin, behind));
                }
            }
        }
    }

    private static void p04WhenThereAre8() {
        for (int n = 0; n < 8; n++) {
            Check.due("place", Boundary.placedTimes(n).place(39, 40), n);
        }
        Boundary.refused("a ninth place", Boundary.ROOM, () -> Boundary.placedTimes(8), x -> x.place(39, 40));
        Boundary.refused("a ninth place, all signed", Boundary.ROOM, () -> Boundary.signedTimes(8), x -> x.place(39, 40));
    }

    private static void p04TheFirstNamed() {
        long[][] wrong = {{40, 41}, {-1, 1}, {39, 39}, {39, 38}, {1, 3}, {2, 4}, {0, 40}};
        for (long[] w : wrong) {
            Boundary.refused("a ninth place " + Arrays.toString(w), Boundary.ARGUMENT, () -> Boundary.placedTimes(8),
                x -> x.place(w[0], w[1]));
        }
    }

    // Promise 5: "IllegalArgumentException when field is not 0 .. 19, or time below 0; IllegalStateException when no place is
    // left, or the field has one; UnsupportedOperationException when there are 8 (or its change has no room)."

    private static void p05FieldIsNot0To19() {
        Check.due("field 0", Boundary.placedTimes(1).sign(0, true, 0), 0);
        Check.due("field 19", Boundary.placedTimes(1).sign(19, true, 0), 0);
        for (int w : WRONG_FIELDS) {
            Boundary.refused("field " + w, Boundary.ARGUMENT, () -> Boundary.placedTimes(1), x -> x.sign(w, true, 0));
            Boundary.refused("field " + w, Boundary.ARGUMENT, Boundary::some, x -> x.sign(w, true, 0));
        }
    }

    private static void p05TimeBelow0() {
        for (long time : new long[] {0, 1, HIGHEST}) {
            Check.due("time " + time, Boundary.placedTimes(1).sign(0, true, time), 0);
        }
        for (long time : new long[] {-1, -WRAP, 1 - WRAP, LOWEST}) {
            Boundary.refused("time " + time, Boundary.ARGUMENT, () -> Boundary.placedTimes(1), x -> x.sign(0, true, time));
            Boundary.refused("time " + time, Boundary.ARGUMENT, Boundary::some, x -> x.sign(0, true, time));
        }
    }

    private static void p05NoPlaceIsLeft() {
        for (int n = 0; n < 8; n++) {
            int count = n;
            Boundary.Maker none = () -> Boundary.signedTimes(count);
            Boundary.refused("no place is left behind " + n, Boundary.STATE, none, x -> x.sign(19, true, 0));
            SignatureSpans x = none.make();
            Check.dueThrow("no place yet", Boundary.STATE, () -> x.sign(19, true, 0));
            x.place(39, 40);
            Check.due("one place is left, and the field has none yet", x.sign(19, true, 0), n);
            Check.dueThrow("it has been the last one", Boundary.STATE, () -> x.sign(18, true, 0));
        }
    }

    private static void p05TheFieldHasOne() {
        for (int f = 0; f < 20; f++) {
            int field = f;
            Boundary.Maker maker = () -> {
                SignatureSpans x = Boundary.placedTimes(2);
                x.sign(field, true, 0);
                return x;
            };
            Boundary.refused("field " + field + " twice", Boundary.STATE, maker, x -> x.sign(field, true, 0));
            Boundary.refused("field " + field + " twice", Boundary.STATE, maker, x -> x.sign(field, false, 9));
            Check.due("the field beside it", maker.make().sign((field + 1) % 20, true, 0), 1);
        }
    }

    private static void p05EachFieldThatHasOne() {
        for (int n = 1; n < 8; n++) {
            int count = n;
            Boundary.Maker maker = () -> {
                SignatureSpans x = Boundary.signedTimes(count);
                x.place(39, 40);
                return x;
            };
            for (int f = 0; f < count; f++) {
                int field = f;
                Boundary.refused("field " + f + " of " + n + " signed", Boundary.STATE, maker, x -> x.sign(field, true, 0));
            }
            Check.due("the next field", maker.make().sign(count, true, 0), count);
        }
    }

    private static void p05AFieldThatIsFilledOrLockedHasNone() {
        SignatureSpans x = Boundary.placedTimes(2);
        x.sign(0, true, 0);
        x.change(0, 6);
        x.lock(0, 6);
        Check.due("a field that is filled and locked", x.sign(6, true, 0), 1);
    }

    private static void p05WhenThereAre8() {
        SignatureSpans x = Boundary.placedTimes(8);
        for (int n = 0; n < 8; n++) {
            Check.due("sign", x.sign(n, true, 0), n);
        }
        // Eight signatures have all eight places, so that what is named before it always fits as well.
        Boundary.refused("a ninth one", Boundary.STATE, () -> Boundary.signedTimes(8), y -> y.sign(8, true, 0));
    }

    private static SignatureSpans placedAndChanged(int changes) {
        SignatureSpans x = Boundary.placedTimes(8);
        for (int n = 0; n < changes; n++) {
            x.change(3, 0);
        }
        return x;
    }

    private static void p05ItsChangeHasNoRoom() {
        Check.due("the first one is no change", placedAndChanged(40).sign(4, true, 1), 0);
        Boundary.Maker room = () -> {
            SignatureSpans x = placedAndChanged(39);
            x.sign(4, true, 1);
            return x;
        };
        Check.due("room for one change", room.make().sign(5, true, 1), 1);
        Boundary.Maker none = () -> {
            SignatureSpans x = room.make();
            x.change(3, 1);
            return x;
        };
        Boundary.refused("no room for its change", Boundary.ROOM, none, x -> x.sign(5, true, 1));
        Boundary.Maker filled = () -> {
            SignatureSpans x = room.make();
            x.sign(5, true, 1);
            return x;
        };
        Boundary.refused("a signature has taken it", Boundary.ROOM, filled, x -> x.sign(6, true, 1));
        Boundary.Maker firstOnly = () -> {
            SignatureSpans x = placedAndChanged(40);
            x.sign(4, true, 1);
            return x;
        };
        Boundary.refused("there has been none", Boundary.ROOM, firstOnly, x -> x.sign(6, true, 1));
    }

    private static void p05TheFirstNamed() {
        Boundary.Maker full = () -> {
            SignatureSpans x = placedAndChanged(40);
            x.sign(4, true, 1);
            return x;
        };
        Boundary.refused("field, and no room", Boundary.ARGUMENT, full, x -> x.sign(20, true, 1));
        Boundary.refused("time, and no room", Boundary.ARGUMENT, full, x -> x.sign(5, true, -1));
        Boundary.refused("time, the field has one, and no room", Boundary.ARGUMENT, full, x -> x.sign(4, true, -1));
        Boundary.refused("the field has one, and no room", Boundary.STATE, full, x -> x.sign(4, true, 1));
        Boundary.Maker none = SignatureSpans::new;
        Boundary.refused("field, and no place", Boundary.ARGUMENT, none, x -> x.sign(-1, true, 0));
        Boundary.refused("time, and no place", Boundary.ARGUMENT, none, x -> x.sign(0, true, -1));
        Boundary.Maker noPlace = () -> {
            SignatureSpans x = Boundary.signedTimes(1);
            for (int n = 0; n < 40; n++) {
                x.change(0, 0);
            }
            return x;
        };
        Boundary.refused("no place, and no room", Boundary.STATE, noPlace, x -> x.sign(5, true, 1));
        Boundary.refused("all is full", Boundary.STATE, Boundary::full, x -> x.sign(19, true, 1));
        Boundary.refused("all is full, and time", Boundary.ARGUMENT, Boundary::full, x -> x.sign(19, true, -1));
    }

    // Promise 6: "1 the signature HOLDS; else the first number above that is so. NoSuchElementException."
    // The numbers themselves are in TermsTest.

    private static void p06NoSuchSignature() {
        Boundary.noSuchSignature(SignatureSpans::holds, SignatureSpans::holds);
    }

    private static void p06ItOnlyTells() {
        Boundary.onlyTells("one that holds", () -> Boundary.signedTimes(3), 1, x -> x.holds(1));
        Boundary.onlyTells("one whose bytes are others now", Boundary::some, 5, x -> x.holds(0));
        Boundary.onlyTells("one whose spans are wrong", Boundary::some, 3, x -> x.holds(1));
    }

    // Promise 7: "Where span i (0, 1) of a signature begins (side 0), or what is behind its last byte (1).
    // NoSuchElementException; IndexOutOfBoundsException."

    private static void p07NoSuchSignature() {
        Boundary.noSuchSignature((x, s) -> x.span(s, 1, 1), (x, s) -> x.span(s, 2, -1));
    }

    private static void p07NoSuchSpan() {
        Boundary.onlyTells("span 0", Boundary::some, 9, x -> x.span(0, 0, 1));
        Boundary.onlyTells("span 1", Boundary::some, 40, x -> x.span(0, 1, 1));
        for (int w : new int[] {-1, 2, 3, LOW, HIGH}) {
            Boundary.refused("span " + w, Boundary.INDEX, Boundary::some, x -> x.span(0, w, 0));
            Boundary.refused("span " + w, Boundary.INDEX, Boundary::some, x -> x.span(1, w, 1));
        }
    }

    private static void p07NoSuchSide() {
        Boundary.onlyTells("side 0", Boundary::some, 11, x -> x.span(0, 1, 0));
        Boundary.onlyTells("side 1", Boundary::some, 40, x -> x.span(0, 1, 1));
        for (int w : new int[] {-1, 2, 3, -2, LOW, HIGH}) {
            Boundary.refused("side " + w, Boundary.INDEX, Boundary::some, x -> x.span(0, 0, w));
            Boundary.refused("side " + w, Boundary.INDEX, Boundary::some, x -> x.span(1, 1, w));
        }
    }

    // Promise 8: "A span is told otherwise. NoSuchElementException; IndexOutOfBoundsException."

    private static long tell(SignatureSpans x, int signature, int i) {
        x.tell(signature, i, 99, 98);
        return 0;
    }

    private static void p08NoSuchSignature() {
        Boundary.noSuchSignature((x, s) -> tell(x, s, 1), (x, s) -> tell(x, s, 2));
    }

    private static void p08NoSuchSpan() {
        for (int i = 0; i < 2; i++) {
            SignatureSpans x = Boundary.signedTimes(2);
            x.tell(1, i, 7, 8);
            Check.due("span " + i + " is told", x.span(1, i, 0) * 100 + x.span(1, i, 1), 708);
            Check.due("the other one is not", x.span(1, 1 - i, 0), i == 1 ? 0 : 7);
            Check.due("the other one is not", x.span(1, 1 - i, 1), i == 1 ? 5 : 40);
            Check.due("another signature's is not", x.span(0, i, 1 - i), i == 0 ? 1 : 3);
        }
        for (int w : new int[] {-1, 2, LOW, HIGH}) {
            Boundary.refused("span " + w, Boundary.INDEX, Boundary::some, x -> tell(x, 0, w));
            Boundary.refused("span " + w, Boundary.INDEX, Boundary::some, x -> tell(x, 1, w));
        }
    }

    /** The document refuses no place: behind the file, before it, of no byte, or from behind to before. */
    private static void p08AnyPlaceMayBeTold() {
        long[][] told = {{0, 0}, {-1, -1}, {40, 41}, {9, 2}, {WRAP, -WRAP}, {LOWEST, HIGHEST}, {HIGHEST, LOWEST}};
        for (long[] t : told) {
            for (int i = 0; i < 2; i++) {
                SignatureSpans x = Boundary.signedTimes(1);
                x.tell(0, i, t[0], t[1]);
                Check.due("told from", x.span(0, i, 0), t[0]);
                Check.due("told to", x.span(0, i, 1), t[1]);
            }
        }
    }

    // Promise 9: "A row of a signature's chain: how many it has. NoSuchElementException; IllegalArgumentException when to is
    // below from; UnsupportedOperationException when it has 4."

    private static void p09NoSuchSignature() {
        Boundary.noSuchSignature((x, s) -> x.chain(s, 0, 1), (x, s) -> x.chain(s, 1, 0));
    }

    private static void p09ToIsBelowFrom() {
        long[][] right = {{0, 0}, {0, 1}, {50, 50}, {-1, 0}, {-5, -5}, {LOWEST, LOWEST}, {HIGHEST, HIGHEST},
            {LOWEST, HIGHEST}, {-1, HIGHEST}, {LOWEST, 0}, {1, WRAP}};
        for (long[] r : right) {
            Check.due("row " + Arrays.toString(r), Boundary.some().chain(0, r[0], r[1]), 3);
        }
        long[][] wrong = {{0, -1}, {1, 0}, {50, 49}, {-4, -5}, {HIGHEST, LOWEST}, {HIGHEST, -1}, {0, LOWEST},
            {HIGHEST, HIGHEST - 1}, {LOWEST + 1, LOWEST}, {WRAP, 1}};
        for (long[] w : wrong) {
            Boundary.refused("row " + Arrays.toString(w), Boundary.ARGUMENT, Boundary::some, x -> x.chain(0, w[0], w[1]));
        }
    }

    private static SignatureSpans chained(int rows) {
        SignatureSpans x = Boundary.placedTimes(2);
        x.sign(0, true, 50);
        x.sign(1, true, 50);
        for (int n = 0; n < rows; n++) {
            x.chain(0, 0, 100);
        }
        return x;
    }

    private static void p09WhenItHas4() {
        for (int n = 0; n < 4; n++) {
            Check.due("row", chained(n).chain(0, 0, 100), n + 1);
        }
        Boundary.refused("a fifth row", Boundary.ROOM, () -> chained(4), x -> x.chain(0, 0, 0));
        Check.due("another one has room of its own", chained(4).chain(1, 0, 0), 1);
    }

    private static void p09TheFirstNamed() {
        Boundary.refused("a fifth row, wrong", Boundary.ARGUMENT, () -> chained(4), x -> x.chain(0, 1, 0));
        Boundary.refused("a fifth row, wrong, of none", Boundary.NONE, () -> chained(4), x -> x.chain(2, 1, 0));
        Boundary.refused("a row of none, all full", Boundary.NONE, Boundary::full, x -> x.chain(8, 1, 0));
    }

    // Promise 10: "A change: how many there are. IllegalArgumentException when kind is not 0 .. 3, or field not 0 .. 19;
    // UnsupportedOperationException when there are 40."

    private static void p10KindIsNot0To3() {
        for (int kind = 0; kind < 4; kind++) {
            Check.due("kind " + kind, Boundary.some().change(kind, 0), 6);
        }
        for (int w : new int[] {-1, 4, LOW, HIGH}) {
            Boundary.refused("kind " + w, Boundary.ARGUMENT, Boundary::some, x -> x.change(w, 0));
        }
    }

    private static void p10FieldIsNot0To19() {
        for (int field : new int[] {0, 1, 18, 19}) {
            Check.due("field " + field, Boundary.some().change(0, field), 6);
        }
        for (int w : WRONG_FIELDS) {
            for (int k = 0; k < 4; k++) {
                int kind = k;
                Boundary.refused("field " + w, Boundary.ARGUMENT, Boundary::some, x -> x.change(kind, w));
            }
        }
    }

    private static SignatureSpans changed(int many) {
        SignatureSpans x = Boundary.signedTimes(1);
        for (int n = 0; n < many; n++) {
            x.change(n % 4, n % 20);
        }
        return x;
    }

    private static void p10WhenThereAre40() {
        for (int n = 0; n < 40; n++) {
            Check.due("change", changed(n).change(3, 19), n + 1);
        }
        Boundary.refused("a 41st change", Boundary.ROOM, () -> changed(40), x -> x.change(0, 0));
        SignatureSpans x = changed(39);
        x.place(39, 40);
        x.sign(9, true, 0);
        Check.due("a signature's change counts", x.since(0, -1, 0), 40);
        Check.dueThrow("so that there are 40", Boundary.ROOM, () -> x.change(0, 0));
        SignatureSpans y = Boundary.signedTimes(8);
        Check.due("seven of eight signatures are changes", y.change(0, 0), 8);
    }

    private static void p10TheFirstNamed() {
        Boundary.refused("a 41st of no kind", Boundary.ARGUMENT, () -> changed(40), x -> x.change(4, 0));
        Boundary.refused("a 41st of no kind", Boundary.ARGUMENT, () -> changed(40), x -> x.change(-1, 0));
        Boundary.refused("a 41st of no field", Boundary.ARGUMENT, () -> changed(40), x -> x.change(0, 20));
        Boundary.refused("a 41st of no field", Boundary.ARGUMENT, () -> changed(40), x -> x.change(0, -1));
    }

    // Promise 11: "The kinds that a signature allows (the lowest four bits: 1 for kind 0, 2 for kind 1, ..): those before.
    // NoSuchElementException."

    private static void p11NoSuchSignature() {
        Boundary.noSuchSignature((x, s) -> x.allow(s, 0), (x, s) -> x.allow(s, -1));
    }

    private static void p11TheLowestFourBits() {
        int[] more = {0, 16, 32, 0xf0, 1 << 30, LOW, -16};
        for (int kinds = 0; kinds < 16; kinds++) {
            for (int above : more) {
                SignatureSpans x = changed(4);
                Check.due("those before", x.allow(0, kinds | above), 15);
                for (int kind = 0; kind < 4; kind++) {
                    Check.due("kind " + kind + " of " + (kinds | above), x.since(0, kind, 2), kinds >> kind & 1);
                }
                Check.due("those before", x.allow(0, 0), kinds);
            }
        }
    }

    private static void p11OneSignatureAlone() {
        SignatureSpans x = Boundary.signedTimes(3);
        x.allow(1, 4);
        Check.due("the one before", x.allow(0, 15), 15);
        Check.due("it", x.allow(1, 15), 4);
        Check.due("the one behind", x.allow(2, 15), 15);
    }

    // Promise 12: "A signature locks a field: 1; 0 if it did. NoSuchElementException; IllegalArgumentException."

    private static void p12NoSuchSignature() {
        Boundary.noSuchSignature((x, s) -> x.lock(s, 19), (x, s) -> x.lock(s, 20));
    }

    private static void p12NoSuchField() {
        Check.due("field 0", Boundary.some().lock(0, 0), 1);
        Check.due("field 19", Boundary.some().lock(0, 19), 1);
        for (int w : WRONG_FIELDS) {
            Boundary.refused("field " + w, Boundary.ARGUMENT, Boundary::some, x -> x.lock(0, w));
            Boundary.refused("field " + w, Boundary.ARGUMENT, Boundary::full, x -> x.lock(7, w));
        }
    }

    private static void p12ZeroIfItDid() {
        for (int f = 0; f < 20; f++) {
            int field = f;
            Boundary.Maker maker = () -> {
                SignatureSpans x = Boundary.signedTimes(2);
                x.lock(1, field);
                return x;
            };
            Boundary.onlyTells("field " + field + " again", maker, 0, x -> x.lock(1, field));
            Check.due("another field", maker.make().lock(1, (field + 1) % 20), 1);
            Check.due("another signature", maker.make().lock(0, field), 1);
        }
        SignatureSpans x = Boundary.signedTimes(1);
        for (int field = 0; field < 20; field++) {
            Check.due("lock all", x.lock(0, field), 1);
        }
        for (int field = 0; field < 20; field++) {
            Check.due("all are locked", x.lock(0, field), 0);
        }
    }

    // Promise 13: "A signature certifies with a level 1 .. 3: 1; 0, and it does not, if it is not signature 0, or does
    // already. NoSuchElementException; IllegalArgumentException."

    private static void p13NoSuchSignature() {
        Boundary.noSuchSignature((x, s) -> x.certify(s, 3), (x, s) -> x.certify(s, 4));
    }

    private static void p13NoSuchLevel() {
        for (int level = 1; level <= 3; level++) {
            Check.due("level " + level, Boundary.signedTimes(2).certify(0, level), 1);
        }
        for (int w : new int[] {0, 4, -1, LOW, HIGH}) {
            Boundary.refused("level " + w, Boundary.ARGUMENT, () -> Boundary.signedTimes(2), x -> x.certify(0, w));
            Boundary.refused("level " + w + " of signature 1", Boundary.ARGUMENT, () -> Boundary.signedTimes(2),
                x -> x.certify(1, w));
            Boundary.refused("level " + w + " of one that does", Boundary.ARGUMENT, Boundary::some, x -> x.certify(0, w));
        }
    }

    private static void p13ItIsNotSignature0() {
        for (int s = 1; s < 8; s++) {
            int signature = s;
            for (int n = 1; n <= 3; n++) {
                int level = n;
                Boundary.onlyTells("signature " + s, () -> Boundary.signedTimes(8), 0, x -> x.certify(signature, level));
            }
        }
        SignatureSpans x = Boundary.signedTimes(2);
        x.certify(1, 1);
        x.change(3, 0);
        Check.due("it does not", x.since(1, 0, 2), 1);
        Check.due("it holds", x.holds(1), 1);
        Check.due("signature 0 still may", x.certify(0, 1), 1);
    }

    private static SignatureSpans certified(int level) {
        SignatureSpans x = changed(4);
        x.certify(0, level);
        return x;
    }

    private static void p13ItDoesAlready() {
        for (int n = 1; n <= 3; n++) {
            int first = n;
            for (int m = 1; m <= 3; m++) {
                int second = m;
                Boundary.onlyTells("level " + n + ", then " + m, () -> certified(first), 0, x -> x.certify(0, second));
            }
        }
    }

    // Promise 14: "Of the i-th change since a signature: 0 its kind, 1 its field, 2 whether it is allowed (1, 0); i = -1: how
    // many. NoSuchElementException; IndexOutOfBoundsException."

    private static void p14NoSuchSignature() {
        Boundary.noSuchSignature((x, s) -> x.since(s, -1, 0), (x, s) -> x.since(s, 40, 3));
    }

    private static void p14NoSuchChange() {
        for (int many : new int[] {0, 1, 2, 39, 40}) {
            Boundary.Maker maker = () -> changed(many);
            Boundary.onlyTells("how many", maker, many, x -> x.since(0, -1, 0));
            if (many > 0) {
                Boundary.onlyTells("the first one", maker, 0, x -> x.since(0, 0, 0));
                Boundary.onlyTells("the last one", maker, (many - 1) % 20, x -> x.since(0, many - 1, 1));
            }
            for (int w : new int[] {many, many + 1, -2, 41, LOW, HIGH}) {
                for (int k = 0; k < 3; k++) {
                    int what = k;
                    Boundary.refused("change " + w + " of " + many, Boundary.INDEX, maker, x -> x.since(0, w, what));
                }
            }
        }
    }

    /** Changes before a signature are not since it, though there are that many. */
    private static void p14NoSuchChangeSinceALaterOne() {
        Boundary.onlyTells("how many since 0", Boundary::some, 4, x -> x.since(0, -1, 0));
        Boundary.onlyTells("how many since 1", Boundary::some, 2, x -> x.since(1, -1, 0));
        Boundary.onlyTells("the last one since 0", Boundary::some, 19, x -> x.since(0, 3, 1));
        Boundary.onlyTells("the last one since 1", Boundary::some, 19, x -> x.since(1, 1, 1));
        Boundary.refused("one behind since 0", Boundary.INDEX, Boundary::some, x -> x.since(0, 4, 1));
        Boundary.refused("one behind since 1", Boundary.INDEX, Boundary::some, x -> x.since(1, 2, 1));
        Boundary.refused("one before since 1", Boundary.INDEX, Boundary::some, x -> x.since(1, -2, 1));
    }

    private static void p14NothingOfIt() {
        int[] due = {1, 4, 1};
        for (int w = 0; w < 3; w++) {
            int what = w;
            Boundary.onlyTells("what " + w, Boundary::some, due[w], x -> x.since(0, 0, what));
        }
        for (int w : new int[] {-1, 3, LOW, HIGH}) {
            Boundary.refused("what " + w, Boundary.INDEX, Boundary::some, x -> x.since(0, 0, w));
        }
    }

    private static void p14HowManyOfWhatever() {
        for (int what : new int[] {0, 1, 2, 3, -1, LOW, HIGH}) {
            Boundary.onlyTells("how many, what " + what, Boundary::some, 4, x -> x.since(0, -1, what));
        }
    }

    // Promise 15: "Byte i (0 .. 31) of a signature's digest. NoSuchElementException; ArrayIndexOutOfBoundsException."

    private static void p15NoSuchSignature() {
        Boundary.noSuchSignature((x, s) -> x.digest(s, 31), (x, s) -> x.digest(s, 32));
    }

    private static void p15NoSuchByte() {
        // SHA-256 of no byte begins with e3 and ends with 55.
        Boundary.Maker maker = () -> {
            SignatureSpans x = Boundary.fileOf(5);
            x.place(0, 5);
            x.sign(0, true, 0);
            return x;
        };
        Boundary.onlyTells("byte 0", maker, (byte) 0xe3, x -> x.digest(0, 0));
        Boundary.onlyTells("byte 31", maker, (byte) 0x55, x -> x.digest(0, 31));
        for (int w : new int[] {-1, 32, 33, LOW, HIGH}) {
            Boundary.refused("byte " + w, Boundary.ARRAY_INDEX, maker, x -> x.digest(0, w));
            Boundary.refused("byte " + w, Boundary.ARRAY_INDEX, Boundary::some, x -> x.digest(1, w));
        }
    }

    // Promise 16: "How many bytes the file has behind a signature's end. NoSuchElementException."

    private static void p16NoSuchSignature() {
        Boundary.noSuchSignature(SignatureSpans::behind, SignatureSpans::behind);
    }

    private static void p16NoneAndAll() {
        SignatureSpans x = Boundary.fileOf(1);
        x.place(0, 1);
        x.sign(0, true, 0);
        for (int n = 0; n < 1500; n++) {
            Check.due("behind", x.behind(0), n);
            if (n < 1499) {
                x.add((byte) n);
            }
        }
        Check.dueThrow("no byte more", Boundary.ROOM, () -> x.add((byte) 0));
        Check.due("none more behind", x.behind(0), 1499);
    }

    private static void p16ItOnlyTells() {
        Boundary.onlyTells("none behind", Boundary::some, 0, x -> x.behind(1));
        Boundary.onlyTells("one behind", Boundary::some, 1, x -> x.behind(0));
    }

    // Promise 17: "A stamp: its number. IllegalArgumentException when time is below 0; UnsupportedOperationException when
    // there are 10."

    private static SignatureSpans stampedTimes(int many) {
        SignatureSpans x = Boundary.fileOf(5);
        for (int n = 0; n < many; n++) {
            x.stamp(n);
        }
        return x;
    }

    private static void p17TimeIsBelow0() {
        for (long time : new long[] {0, 1, WRAP, HIGHEST}) {
            Check.due("time " + time, stampedTimes(3).stamp(time), 3);
        }
        for (long time : new long[] {-1, -WRAP, 1 - WRAP, LOWEST}) {
            Boundary.refused("time " + time, Boundary.ARGUMENT, () -> stampedTimes(3), x -> x.stamp(time));
            Boundary.refused("time " + time, Boundary.ARGUMENT, Boundary::some, x -> x.stamp(time));
        }
    }

    private static void p17WhenThereAre10() {
        for (int n = 0; n < 10; n++) {
            Check.due("stamp", stampedTimes(n).stamp(0), n);
        }
        Boundary.refused("an eleventh stamp", Boundary.ROOM, () -> stampedTimes(10), x -> x.stamp(5));
        Boundary.refused("an eleventh stamp", Boundary.ROOM, Boundary::full, x -> x.stamp(5));
    }

    private static void p17TheFirstNamed() {
        Boundary.refused("an eleventh of no time", Boundary.ARGUMENT, () -> stampedTimes(10), x -> x.stamp(-1));
    }

    // Promise 18: "Of the i-th stamp in ORDER: 0 its number, 1 its time, 2 how many bytes it is of, 3 whether it is GOOD
    // (1, 0); i = -1: how many. IndexOutOfBoundsException."

    private static void p18NoSuchStamp() {
        for (int many : new int[] {0, 1, 2, 9, 10}) {
            Boundary.Maker maker = () -> stampedTimes(many);
            Boundary.onlyTells("how many", maker, many, x -> x.stamped(-1, 0));
            if (many > 0) {
                Boundary.onlyTells("the first one", maker, 0, x -> x.stamped(0, 0));
                Boundary.onlyTells("the last one", maker, many - 1, x -> x.stamped(many - 1, 0));
            }
            for (int w : new int[] {many, many + 1, -2, 11, LOW, HIGH}) {
                for (int k = 0; k < 4; k++) {
                    int what = k;
                    Boundary.refused("stamp " + w + " of " + many, Boundary.INDEX, maker, x -> x.stamped(w, what));
                }
            }
        }
    }

    private static void p18NothingOfIt() {
        long[] due = {1, 3, 41, 0};
        for (int w = 0; w < 4; w++) {
            int what = w;
            Boundary.onlyTells("what " + w, Boundary::some, due[w], x -> x.stamped(0, what));
        }
        for (int w : new int[] {-1, 4, LOW, HIGH}) {
            Boundary.refused("what " + w, Boundary.INDEX, Boundary::some, x -> x.stamped(0, w));
            Boundary.refused("what " + w, Boundary.INDEX, Boundary::full, x -> x.stamped(9, w));
        }
    }

    private static void p18HowManyOfWhatever() {
        for (int what : new int[] {0, 1, 2, 3, 4, -1, LOW, HIGH}) {
            Boundary.onlyTells("how many, what " + what, Boundary::some, 2, x -> x.stamped(-1, what));
        }
    }
}
