import java.util.NoSuchElementException;

/**
 * All that the face tells of an object, as one text, so that two objects can be held against each other. Taking it uses the
 * object up: what no call reads (places, locks, room that is left) is told by calls that change it.
 */
final class Portrait {
    private static final int SIGNATURES = 8;
    private static final int FIELDS = 20;

    private final SignatureSpans x;
    private final StringBuilder text = new StringBuilder();
    private int size;

    private Portrait(SignatureSpans x) {
        this.x = x;
    }

    static String of(SignatureSpans x) {
        Portrait p = new Portrait(x);
        // What no refused call is needed for comes first: a refused call that does change something does so in the twin, too.
        p.stamps();
        for (int s = 0; s <= SIGNATURES && p.isSignature(s); s++) {
            p.signature(s);
            p.hidden(s);
        }
        p.bytes();
        p.sign();
        p.room();
        p.sign();
        return p.text.toString();
    }

    private void put(String name, Check.Call call) {
        text.append(name).append(' ');
        try {
            text.append(call.answer());
        } catch (RuntimeException e) {
            text.append(e.getClass().getSimpleName());
        }
        text.append('\n');
    }

    private void bytes() {
        while (isByte(size)) {
            int at = size;
            put("byte", () -> x.poke(at, 0));
            size++;
        }
    }

    private boolean isByte(int at) {
        try {
            x.poke(at, 0);
            return true;
        } catch (IndexOutOfBoundsException e) {
            return false;
        }
    }

    private void stamps() {
        put("stamps", () -> x.stamped(-1, 0));
        for (int n = 0; n < x.stamped(-1, 0); n++) {
            int i = n;
            for (int w = 0; w < 4; w++) {
                int what = w;
                put("stamped", () -> x.stamped(i, what));
            }
        }
    }

    private boolean isSignature(int s) {
        try {
            x.behind(s);
            return true;
        } catch (NoSuchElementException e) {
            return false;
        }
    }

    private void signature(int s) {
        put("holds", () -> x.holds(s));
        put("behind", () -> x.behind(s));
        for (int n = 0; n < 4; n++) {
            int side = n;
            put("span", () -> x.span(s, side / 2, side % 2));
        }
        for (int n = 0; n < 32; n++) {
            int i = n;
            put("digest", () -> x.digest(s, i));
        }
        put("changes", () -> x.since(s, -1, 0));
        for (int n = 0; n < x.since(s, -1, 0); n++) {
            int i = n;
            for (int w = 0; w < 3; w++) {
                int what = w;
                put("since", () -> x.since(s, i, what));
            }
        }
    }

    private void hidden(int s) {
        put("allow", () -> x.allow(s, 15));
        for (int n = 0; n < x.since(s, -1, 0); n++) {
            int i = n;
            put("since by level and locks", () -> x.since(s, i, 2));
        }
        for (int n = 0; n < FIELDS; n++) {
            int field = n;
            put("lock", () -> x.lock(s, field));
        }
        put("certify", () -> x.certify(s, 1));
        for (int n = 0; n < 5; n++) {
            put("chain", () -> x.chain(s, Long.MIN_VALUE, Long.MAX_VALUE));
        }
        put("holds with more rows", () -> x.holds(s));
    }

    private void sign() {
        for (int n = 0; n < FIELDS; n++) {
            int field = n;
            put("sign", () -> x.sign(field, true, 0));
        }
        for (int n = 0; n <= SIGNATURES; n++) {
            int s = n;
            put("place of", () -> x.span(s, 0, 1));
            put("place of", () -> x.span(s, 1, 0));
        }
    }

    private void room() {
        // Places that share a byte are refused first, so single bytes tell every place, even with no room left.
        for (int n = 0; n < size; n++) {
            int at = n;
            put("place", () -> x.place(at, at + 1));
        }
        put("add", () -> x.add((byte) 1));
        put("change", () -> x.change(0, 0));
        put("stamp", () -> x.stamp(0));
        put("stamps", () -> x.stamped(-1, 0));
    }
}
