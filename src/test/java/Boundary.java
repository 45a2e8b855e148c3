import java.lang.reflect.InvocationTargetException;
import java.lang.reflect.Method;
import java.util.Arrays;
import java.util.Comparator;
import java.util.NoSuchElementException;

/** What the tests of the boundary cases share: objects in a known state, and refused calls that must change nothing. */
final class Boundary {
    interface Maker {
        SignatureSpans make();
    }

    interface Act {
        long on(SignatureSpans x);
    }

    interface SignatureAct {
        long on(SignatureSpans x, int signature);
    }

    static final Class<IllegalArgumentException> ARGUMENT = IllegalArgumentException.class;
    static final Class<IllegalStateException> STATE = IllegalStateException.class;
    static final Class<UnsupportedOperationException> ROOM = UnsupportedOperationException.class;
    static final Class<IndexOutOfBoundsException> INDEX = IndexOutOfBoundsException.class;
    static final Class<ArrayIndexOutOfBoundsException> ARRAY_INDEX = ArrayIndexOutOfBoundsException.class;
    static final Class<NoSuchElementException> NONE = NoSuchElementException.class;

    private Boundary() {
    }

    /** Every method without a parameter is a test of its own, so that none can be written and left out. */
    static void runAll(Class<?> tests) throws IllegalAccessException, InvocationTargetException {
        Method[] methods = tests.getDeclaredMethods();
        Arrays.sort(methods, Comparator.comparing(Method::getName));
        int run = 0;
        for (Method m : methods) {
            if (!m.isSynthetic() && m.getParameterCount() == 0 && m.getReturnType() == void.class) {
                Check.begin(m.getName());
                m.setAccessible(true);
                m.invoke(null);
                run++;
            }
        }
        System.out.println(run + " tests");
    }

    /** The call throws just that, and the object is then the twin of one on which it was never called. */
    static void refused(String what, Class<? extends RuntimeException> want, Maker maker, Act act) {
        SignatureSpans x = maker.make();
        Check.dueThrow(what, want, () -> act.on(x));
        Check.isSo(what + ": that nothing has changed", Portrait.of(x).equals(Portrait.of(maker.make())));
    }

    /** A call that answers, and changes nothing by it. */
    static void onlyTells(String what, Maker maker, long want, Act act) {
        SignatureSpans x = maker.make();
        Check.due(what, act.on(x), want);
        Check.isSo(what + ": that nothing has changed", Portrait.of(x).equals(Portrait.of(maker.make())));
    }

    /** The last signature that there is answers, the next one does not, whatever is wrong in the call besides. */
    static void noSuchSignature(SignatureAct right, SignatureAct wrong) {
        for (int many = 0; many <= 8; many++) {
            int count = many;
            Maker maker = () -> signedTimes(count);
            if (count > 0) {
                answers("signature " + (count - 1) + " of " + count, maker, x -> right.on(x, count - 1));
                answers("signature 0 of " + count, maker, x -> right.on(x, 0));
            }
            for (int s : new int[] {count, -1, count + 1, 8, Integer.MIN_VALUE, Integer.MAX_VALUE}) {
                refused("signature " + s + " of " + count, NONE, maker, x -> right.on(x, s));
                refused("signature " + s + " of " + count + ", all wrong", NONE, maker, x -> wrong.on(x, s));
            }
        }
    }

    static void answers(String what, Maker maker, Act act) {
        try {
            act.on(maker.make());
            Check.isSo(what, true);
        } catch (RuntimeException e) {
            Check.isSo(what + " threw " + e + ", that it answers", false);
        }
    }

    static byte byteAt(int i) {
        return (byte) (i * 37 + 11);
    }

    static SignatureSpans fileOf(int many) {
        SignatureSpans x = new SignatureSpans();
        grow(x, many);
        return x;
    }

    static void grow(SignatureSpans x, int many) {
        for (int i = 0; i < many; i++) {
            x.add(byteAt(i));
        }
    }

    /** Forty bytes and places 0 .. many - 1, two bytes each, with two bytes between them. */
    static SignatureSpans placedTimes(int many) {
        SignatureSpans x = fileOf(40);
        for (int n = 0; n < many; n++) {
            x.place(4 * n + 1, 4 * n + 3);
        }
        return x;
    }

    /** Signatures 0 .. many - 1 of fields 0 .. many - 1, whose places are 0 .. many - 1, and that hold at time 50. */
    static SignatureSpans signedTimes(int many) {
        SignatureSpans x = fileOf(40);
        for (int n = 0; n < many; n++) {
            x.place(4 * n + 1, 4 * n + 3);
            x.sign(n, true, 50);
            x.chain(n, 0, 100);
        }
        return x;
    }

    /** Something of everything, and room left for more of everything. */
    static SignatureSpans some() {
        SignatureSpans x = placedTimes(3);
        x.change(3, 17);
        x.sign(4, true, 50);
        x.chain(0, 50, 60);
        x.chain(0, 40, 50);
        x.stamp(9);
        x.change(1, 4);
        x.add((byte) 5);
        x.sign(11, false, 70);
        x.chain(1, 71, 80);
        x.lock(0, 6);
        x.allow(0, 11);
        x.allow(1, 7);
        x.certify(0, 3);
        x.change(0, 6);
        x.change(2, 19);
        x.stamp(3);
        x.tell(1, 1, 17, -4);
        x.poke(30, 12);
        return x;
    }

    /** Everything but the file has as much as it may. */
    static SignatureSpans full() {
        SignatureSpans x = signedTimes(8);
        for (int s = 0; s < 8; s++) {
            for (int row = 1; row < 4; row++) {
                x.chain(s, row, 100 - row);
            }
            x.lock(s, s);
        }
        for (int n = 7; n < 40; n++) {
            x.change(n % 4, n % 20);
        }
        for (int n = 0; n < 10; n++) {
            x.stamp(n * 7 % 5);
        }
        return x;
    }
}
