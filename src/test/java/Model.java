import java.security.MessageDigest;
import java.security.NoSuchAlgorithmException;
import java.util.ArrayList;
import java.util.Comparator;
import java.util.List;
import java.util.NoSuchElementException;
import java.util.TreeSet;

/** The document's words once more, with the library and without care for room: what random runs are held against. */
final class Model {
    private record Place(long from, long to) {
    }

    private record Row(long from, long to) {
    }

    private record Change(int kind, int field) {
    }

    private record Stamp(int number, long time, List<Byte> bytes) {
    }

    private static final class Signature {
        int field;
        boolean verdict;
        long time;
        Place place;
        int end;
        int madeAt;
        byte[] digest;
        final long[][] spans = new long[2][2];
        final List<Row> chain = new ArrayList<>();
        int kinds = 15;
        final TreeSet<Integer> locked = new TreeSet<>();
        int level;
    }

    private final List<Byte> file = new ArrayList<>();
    private final List<Place> places = new ArrayList<>();
    private final List<Place> free = new ArrayList<>();
    private final List<Signature> signatures = new ArrayList<>();
    private final List<Change> changes = new ArrayList<>();
    private final List<Stamp> stamps = new ArrayList<>();

    int add(byte b) {
        need(file.size() < 1500, new UnsupportedOperationException());
        file.add(b);
        return file.size();
    }

    int poke(long i, int mask) {
        need(i >= 0 && i < file.size(), new IndexOutOfBoundsException());
        int now = (Byte.toUnsignedInt(file.get((int) i)) ^ mask) & 0xff;
        file.set((int) i, (byte) now);
        return now;
    }

    int place(long from, long to) {
        need(0 <= from && from < to && to <= file.size(), new IllegalArgumentException());
        for (Place p : places) {
            need(to <= p.from || p.to <= from, new IllegalArgumentException());
        }
        need(places.size() < 8, new UnsupportedOperationException());
        Place made = new Place(from, to);
        places.add(made);
        free.add(made);
        return places.size() - 1;
    }

    int sign(int field, boolean verdict, long time) {
        need(field >= 0 && field <= 19 && time >= 0, new IllegalArgumentException());
        need(!free.isEmpty(), new IllegalStateException());
        for (Signature s : signatures) {
            need(s.field != field, new IllegalStateException());
        }
        need(signatures.size() < 8, new UnsupportedOperationException());
        need(signatures.isEmpty() || changes.size() < 40, new UnsupportedOperationException());
        Signature s = new Signature();
        s.field = field;
        s.verdict = verdict;
        s.time = time;
        s.place = free.remove(free.size() - 1);
        s.end = file.size();
        s.digest = sha(covered(s));
        s.spans[0][1] = s.place.from;
        s.spans[1][0] = s.place.to;
        s.spans[1][1] = s.end;
        if (!signatures.isEmpty()) {
            changes.add(new Change(0, field));
        }
        s.madeAt = changes.size();
        signatures.add(s);
        return signatures.size() - 1;
    }

    int holds(int signature) {
        Signature s = find(signature);
        if (s.spans[0][0] != 0) {
            return 2;
        }
        if (s.spans[0][1] != s.place.from || s.spans[1][0] != s.place.to) {
            return 3;
        }
        if (s.spans[1][1] != s.end) {
            return 4;
        }
        if (!MessageDigest.isEqual(sha(covered(s)), s.digest)) {
            return 5;
        }
        if (!s.verdict) {
            return 6;
        }
        if (s.chain.isEmpty() || s.chain.stream().anyMatch(r -> s.time < r.from || r.to < s.time)) {
            return 7;
        }
        return changes.stream().skip(s.madeAt).allMatch(c -> allows(s, c)) ? 1 : 8;
    }

    long span(int signature, int i, int side) {
        Signature s = find(signature);
        need((i == 0 || i == 1) && (side == 0 || side == 1), new IndexOutOfBoundsException());
        return s.spans[i][side];
    }

    void tell(int signature, int i, long from, long to) {
        Signature s = find(signature);
        need(i == 0 || i == 1, new IndexOutOfBoundsException());
        s.spans[i] = new long[] {from, to};
    }

    int chain(int signature, long from, long to) {
        Signature s = find(signature);
        need(from <= to, new IllegalArgumentException());
        need(s.chain.size() < 4, new UnsupportedOperationException());
        s.chain.add(new Row(from, to));
        return s.chain.size();
    }

    int change(int kind, int field) {
        need(kind >= 0 && kind <= 3 && field >= 0 && field <= 19, new IllegalArgumentException());
        need(changes.size() < 40, new UnsupportedOperationException());
        changes.add(new Change(kind, field));
        return changes.size();
    }

    int allow(int signature, int kinds) {
        Signature s = find(signature);
        int before = s.kinds;
        s.kinds = kinds & 0xf;
        return before;
    }

    int lock(int signature, int field) {
        Signature s = find(signature);
        need(field >= 0 && field <= 19, new IllegalArgumentException());
        return s.locked.add(field) ? 1 : 0;
    }

    int certify(int signature, int level) {
        Signature s = find(signature);
        need(level >= 1 && level <= 3, new IllegalArgumentException());
        if (signature > 0 || s.level > 0) {
            return 0;
        }
        s.level = level;
        return 1;
    }

    int since(int signature, int i, int what) {
        Signature s = find(signature);
        List<Change> since = changes.subList(s.madeAt, changes.size());
        if (i == -1) {
            return since.size();
        }
        need(i >= 0 && i < since.size() && what >= 0 && what <= 2, new IndexOutOfBoundsException());
        Change c = since.get(i);
        return what == 0 ? c.kind : what == 1 ? c.field : allows(s, c) ? 1 : 0;
    }

    byte digest(int signature, int i) {
        Signature s = find(signature);
        need(i >= 0 && i <= 31, new ArrayIndexOutOfBoundsException());
        return s.digest[i];
    }

    long behind(int signature) {
        return file.size() - find(signature).end;
    }

    int stamp(long time) {
        need(time >= 0, new IllegalArgumentException());
        need(stamps.size() < 10, new UnsupportedOperationException());
        stamps.add(new Stamp(stamps.size(), time, new ArrayList<>(file)));
        return stamps.size() - 1;
    }

    long stamped(int i, int what) {
        if (i == -1) {
            return stamps.size();
        }
        need(i >= 0 && i < stamps.size() && what >= 0 && what <= 3, new IndexOutOfBoundsException());
        Stamp s = stamps.stream().sorted(Comparator.comparingLong(Stamp::time)).toList().get(i);
        if (what == 3) {
            return file.subList(0, s.bytes.size()).equals(s.bytes) ? 1 : 0;
        }
        return what == 0 ? s.number : what == 1 ? s.time : s.bytes.size();
    }

    private static boolean allows(Signature s, Change c) {
        boolean ofKinds = (s.kinds & (1 << c.kind)) != 0;
        boolean certified = switch (s.level) {
            case 1 -> false;
            case 2 -> c.kind == 0;
            case 3 -> c.kind == 0 || c.kind == 1;
            default -> true;
        };
        return ofKinds && certified && !(c.kind == 0 && s.locked.contains(c.field));
    }

    private Signature find(int signature) {
        need(signature >= 0 && signature < signatures.size(), new NoSuchElementException());
        return signatures.get(signature);
    }

    private List<Byte> covered(Signature s) {
        List<Byte> bytes = new ArrayList<>(file.subList(0, (int) s.place.from));
        bytes.addAll(file.subList((int) s.place.to, s.end));
        return bytes;
    }

    private static byte[] sha(List<Byte> bytes) {
        byte[] row = new byte[bytes.size()];
        for (int i = 0; i < row.length; i++) {
            row[i] = bytes.get(i);
        }
        try {
            return MessageDigest.getInstance("SHA-256").digest(row);
        } catch (NoSuchAlgorithmException e) {
            throw new AssertionError(e);
        }
    }

    private static void need(boolean so, RuntimeException otherwise) {
        if (!so) {
            throw otherwise;
        }
    }
}
