import java.util.ArrayList;
import java.util.List;
import java.util.TreeSet;

/**
 * A second, slow telling of the document: lists of plain objects, bits as a list of booleans,
 * and images kept as the calls that led to them. The class is compared with it, and it is
 * what is broken on purpose to see that the tests of the sentences notice.
 */
public final class ShapeReportsModel implements Face {
    static final int UNKNOWN = -1, OUTSIDE = -2, STATE = -3, FULL = -4, NO = -5, NONE = -6, FAULT = -7;

    static final class Item {
        int place, sort, tag, more;
        long n, z;
        boolean whole;
    }

    static final class Group {
        long kind, use;
        Group within;
    }

    static final class Field {
        int way, id, firstBit, size;
        long least, most, page;
        boolean slot, step;
        List<Long> uses = new ArrayList<>();
        Group group;
        Fields item;
        long last, wanted;
    }

    /** The FIELDS of one ITEM. */
    static final class Fields {
        List<Field> fields = new ArrayList<>();
        TreeSet<Long> pressed = new TreeSet<>();
    }

    static final class Shape {
        List<Field> fields = new ArrayList<>();
        List<Group> groups = new ArrayList<>();
        int[][] bits = new int[3][16];
        int fault = 0, place = NONE;
    }

    List<Integer> program = new ArrayList<>();
    List<Integer> letter = new ArrayList<>();
    List<long[]> events = new ArrayList<>();
    Shape shape = new Shape();
    int came = 0, told = 0;
    List<int[]> calls = new ArrayList<>();
    List<List<int[]>> images = new ArrayList<>(List.of(List.of(), List.of()));
    int kept = 0;

    @Override public int say(int b) { return call(0, b, 0, 0); }

    @Override public int wipe() { return call(1, 0, 0, 0); }

    @Override public int item(int sort, int tag, int n) { return call(2, sort, tag, n); }

    @Override public int read() { return call(3, 0, 0, 0); }

    @Override public int fault(int what) { return call(4, what, 0, 0); }

    @Override public int written(int i, int k) { return call(5, i, k, 0); }

    @Override public int field(int f, int what) { return call(6, f, what, 0); }

    @Override public int group(int g, int what) { return call(7, g, what, 0); }

    @Override public int length(int way, int id) { return call(8, way, id, 0); }

    @Override public int put(int b) { return call(9, b, 0, 0); }

    @Override public int come() { return call(10, 0, 0, 0); }

    @Override public int event(int what) { return call(11, what, 0, 0); }

    @Override public int next() { return call(12, 0, 0, 0); }

    @Override public int last(int f) { return call(13, f, 0, 0); }

    @Override public int want(int f, int n) { return call(14, f, n, 0); }

    @Override public int made(int way, int id, int k) { return call(15, way, id, k); }

    @Override public int count(int what) { return call(16, what, 0, 0); }

    @Override public int image(int k) { return keep(k); }

    @Override public int restore(int k) { return bringBack(k); }

    private int call(int c, int p, int q, int r) {
        calls.add(new int[] {c, p, q, r});
        return (int) change(c, p, q, r);
    }

    private int keep(int k) {
        if (k != 0 && k != 1) return OUTSIDE;
        images.set(k, new ArrayList<>(calls));
        kept |= 1 << k;
        return 1;
    }

    private int bringBack(int k) {
        if (k != 0 && k != 1) return OUTSIDE;
        if ((kept >> k & 1) == 0) return STATE;
        program.clear();
        letter.clear();
        events.clear();
        shape = new Shape();
        came = 0;
        told = 0;
        calls = new ArrayList<>(images.get(k));
        for (int[] c : calls) change(c[0], c[1], c[2], c[3]);
        return 1;
    }

    private long change(int c, int p, int q, int r) {
        switch (c) {
            case 0: return addByte(p);
            case 1: { int had = program.size(); program.clear(); return had; }
            case 2: return addItem(p, q, r);
            case 3: return readShape();
            case 4: return faultOf(p);
            case 5: return signOf(p, q);
            case 6: return ofField(p, q);
            case 7: return ofGroup(p, q);
            case 8: return p < 0 || p > 2 || q < 0 || q > 15 ? OUTSIDE : shape.bits[p][q];
            case 9: return addToLetter(p);
            case 10: return takeLetter();
            case 11: return p < 0 || p > 2 ? OUTSIDE : events.isEmpty() ? NONE : events.get(0)[p];
            case 12: if (events.isEmpty()) return NONE; events.remove(0); return events.size();
            case 13: return lastOf(p);
            case 14: return setWanted(p, q);
            case 15: return byteOf(p, q, r);
            case 16: return countOf(p);
            default: throw new IllegalStateException("call " + c);
        }
    }

    private int addByte(int b) {
        if (b < 0 || b > 255) return OUTSIDE;
        if (program.size() == 96) return FULL;
        program.add(b);
        return program.size();
    }

    private int addItem(int sort, int tag, int n) {
        if (sort < 0 || sort > 2 || tag < 0 || tag > 15 || n < -32768 || n > 32767) return OUTSIDE;
        List<Integer> bytes = new ArrayList<>();
        int b = tag * 16 + sort * 4;
        if (n == 0) {
            bytes.add(b);
        } else if (n >= -128 && n <= 127) {
            bytes.add(b + 1);
            bytes.add(Math.floorMod(n, 256));
        } else {
            bytes.add(b + 2);
            bytes.add(Math.floorMod(n, 65536) % 256);
            bytes.add(Math.floorMod(n, 65536) / 256);
        }
        if (program.size() + bytes.size() > 96) return FULL;
        program.addAll(bytes);
        return program.size();
    }

    private List<Item> items() {
        List<Item> found = new ArrayList<>();
        int at = 0;
        while (at < program.size()) {
            Item x = new Item();
            int b = program.get(at);
            x.place = at;
            x.more = new int[] {0, 1, 2, 4}[b % 4];
            x.sort = b / 4 % 4;
            x.tag = b / 16;
            x.whole = at + x.more < program.size();
            if (x.whole) {
                long weight = 1;
                for (int i = 1; i <= x.more; i++) {
                    x.n += weight * program.get(at + i);
                    weight *= 256;
                }
                x.z = x.n >= weight / 2 && x.more > 0 ? x.n - weight : x.n;
                x.n %= 2147483648L;
            }
            found.add(x);
            at += 1 + x.more;
        }
        return found;
    }

    private Shape make() {
        Shape s = new Shape();
        long[] now = new long[6];
        List<long[]> stack = new ArrayList<>();
        List<Long> uses = new ArrayList<>();
        List<Group> open = new ArrayList<>();
        long first = 0;
        for (Item x : items()) {
            TreeSet<Integer> f = new TreeSet<>();
            boolean one = x.sort == 1;
            boolean main = x.sort == 0 && (x.tag == 8 || x.tag == 9 || x.tag == 11);
            int way = x.tag == 8 ? 0 : x.tag == 9 ? 1 : 2;
            long more = x.sort != 2 ? 0 : x.tag == 0 ? 1 : x.tag == 2 && x.n >= first ? x.n - first + 1 : 0;
            if (!x.whole) f.add(1);
            if (x.sort == 3 || x.sort == 0 && (x.tag < 8 || x.tag > 12)) f.add(2);
            if (one && x.tag == 7 && x.n > 31) f.add(3);
            if (one && x.tag == 8 && (x.n == 0 || x.n > 15)) f.add(4);
            if (one && x.tag == 9 && x.n > 40) f.add(5);
            if (one && x.tag == 10 && stack.size() == 4) f.add(6);
            if (one && x.tag == 11 && stack.isEmpty()) f.add(7);
            if (uses.size() + more > 32) f.add(8);
            if (x.sort == 0 && x.tag == 10 && s.groups.size() == 12) f.add(9);
            if (x.sort == 0 && x.tag == 12 && open.isEmpty()) f.add(10);
            if (main && (now[3] == 0 || now[5] == 0)) f.add(11);
            if (main && now[1] > now[2] && x.n % 2 == 0) f.add(12);
            if (main && s.bits[way][(int) now[4]] + now[3] * now[5] > 256) f.add(13);
            if (main && x.n % 2 == 0 && s.fields.size() + now[5] > 48) f.add(14);
            if (!f.isEmpty()) {
                s.fault = f.first();
                s.place = x.place;
                return s;
            }
            if (one) {
                if (x.tag == 0) now[0] = x.n;
                if (x.tag == 1) now[1] = x.z;
                if (x.tag == 2) now[2] = x.z;
                if (x.tag == 7) now[3] = x.n;
                if (x.tag == 8) now[4] = x.n;
                if (x.tag == 9) now[5] = x.n;
                if (x.tag == 10) stack.add(now.clone());
                if (x.tag == 11) now = stack.remove(stack.size() - 1);
            }
            if (x.sort == 2) {
                if (x.tag == 0) uses.add(x.n);
                if (x.tag == 1) first = x.n;
                if (x.tag == 2) for (long u = first; u <= x.n; u++) uses.add(u);
            }
            if (x.sort == 0) {
                if (x.tag == 10) {
                    Group g = new Group();
                    g.kind = x.n;
                    g.use = uses.isEmpty() ? 0 : uses.get(0);
                    g.within = open.isEmpty() ? null : open.get(open.size() - 1);
                    s.groups.add(g);
                    open.add(g);
                } else if (x.tag == 12) {
                    open.remove(open.size() - 1);
                } else {
                    pieces(s, x, way, now, uses, open.isEmpty() ? null : open.get(open.size() - 1));
                }
                uses.clear();
                first = 0;
            }
        }
        boolean zero = s.fields.stream().anyMatch(f -> f.id == 0);
        boolean other = s.fields.stream().anyMatch(f -> f.id != 0);
        s.fault = !open.isEmpty() ? 15 : zero && other ? 16 : 0;
        s.place = s.fault == 0 ? NONE : program.size();
        return s;
    }

    private static void pieces(Shape s, Item x, int way, long[] now, List<Long> uses, Group group) {
        Fields together = new Fields();
        for (int k = 0; k < now[5]; k++) {
            int from = s.bits[way][(int) now[4]];
            s.bits[way][(int) now[4]] += now[3];
            if (x.n % 2 == 1) continue;
            Field f = new Field();
            f.way = way;
            f.id = (int) now[4];
            f.firstBit = from;
            f.size = (int) now[3];
            f.least = now[1];
            f.most = now[2];
            f.page = now[0];
            f.slot = x.n / 2 % 2 == 0;
            f.step = !f.slot && x.n / 4 % 2 == 1;
            if (f.slot) f.uses.addAll(uses);
            else if (uses.isEmpty()) f.uses.add(0L);
            else f.uses.add(k < uses.size() ? uses.get(k) : uses.get(uses.size() - 1));
            f.group = group;
            f.item = together;
            together.fields.add(f);
            s.fields.add(f);
        }
    }

    private int readShape() {
        Shape s = make();
        told = s.fault;
        if (s.fault != 0) return FAULT;
        shape = s;
        events.clear();
        letter.clear();
        return s.fields.size();
    }

    private int faultOf(int what) {
        if (what == 0) return make().fault;
        if (what == 1) return make().place;
        if (what == 2) return (int) items().stream().filter(x -> x.whole).count();
        return OUTSIDE;
    }

    private int signOf(int i, int k) {
        List<Item> all = items();
        if (i < 0 || i >= all.size() || !all.get(i).whole) return NONE;
        Item x = all.get(i);
        String[][] words = {
            {"what", "what", "what", "what", "what", "what", "what", "what", "in", "out", "group", "both", "end"},
            {"page", "least", "most", "what", "what", "what", "what", "size", "id", "many", "push", "pop"},
            {"use", "first", "upto"}, {}};
        String text = x.tag < words[x.sort].length ? words[x.sort][x.tag] : "what";
        if (x.more > 0) text += " " + (x.sort == 1 && (x.tag == 1 || x.tag == 2) ? x.z : x.n);
        if (k == -1) return text.length();
        return k < 0 || k >= text.length() ? NONE : text.charAt(k);
    }

    private long ofField(int i, int what) {
        if (i < 0 || i >= shape.fields.size()) return UNKNOWN;
        if (what < 0 || what > 11) return OUTSIDE;
        Field f = shape.fields.get(i);
        return new long[] {f.way, f.id, f.firstBit, f.size, f.least, f.most, f.slot ? 1 : 0, f.step ? 1 : 0, f.page,
            f.uses.size(), f.uses.isEmpty() ? 0 : f.uses.get(0), numberOf(f.group)}[what];
    }

    private int numberOf(Group g) {
        return g == null ? NONE : shape.groups.indexOf(g);
    }

    private long ofGroup(int i, int what) {
        if (what < 0 || what > 3) return OUTSIDE;
        if (i < 0 || i >= shape.groups.size()) return NONE;
        Group g = shape.groups.get(i);
        if (what == 0) return g.kind;
        if (what == 1) return g.use;
        if (what == 2) return numberOf(g.within);
        long found = 0;
        for (Field f : shape.fields) {
            for (Group h = f.group; h != null; h = h.within) {
                if (h == g) found++;
            }
        }
        return found;
    }

    private int addToLetter(int b) {
        if (b < 0 || b > 255) return OUTSIDE;
        if (letter.size() == 33) return FULL;
        letter.add(b);
        return letter.size();
    }

    private boolean named() {
        return shape.fields.stream().anyMatch(f -> f.id != 0);
    }

    private static long numberOf(Field f, List<Boolean> bits) {
        long number = 0;
        for (int i = 0; i < f.size; i++) {
            if (bits.get(f.firstBit + i)) number += 1L << i;
        }
        boolean below = f.least < 0 && number >= 1L << (f.size - 1);
        return below ? number - (1L << f.size) : number;
    }

    private int takeLetter() {
        List<Integer> bytes = new ArrayList<>(letter);
        int before = events.size();
        int id = 0;
        if (bytes.isEmpty()) return NO;
        if (named()) id = bytes.remove(0);
        if (id > 15 || shape.bits[0][id] == 0 || bytes.size() != (shape.bits[0][id] + 7) / 8) {
            letter.clear();
            return NO;
        }
        if (before >= 100) return FULL;
        List<Boolean> bits = new ArrayList<>();
        for (int b : bytes) {
            for (int i = 0; i < 8; i++) bits.add((b >> i & 1) == 1);
        }
        for (Field f : shape.fields) {
            if (f.way != 0 || f.id != id) continue;
            if (f.slot) slots(f, bits);
            else value(f, numberOf(f, bits));
        }
        letter.clear();
        came++;
        return events.size() - before;
    }

    private void value(Field f, long number) {
        if (number < f.least || number > f.most) return;
        if (f.step ? number != 0 : number != f.last) {
            events.add(new long[] {shape.fields.indexOf(f), f.uses.get(0), number});
        }
        f.last = number;
    }

    private void slots(Field f, List<Boolean> bits) {
        if (f.item.fields.get(0) != f) return;
        TreeSet<Long> now = new TreeSet<>();
        for (Field s : f.item.fields) {
            long number = numberOf(s, bits);
            if (number < s.least || number > s.most) continue;
            if (number - s.least < s.uses.size()) now.add(s.uses.get((int) (number - s.least)));
        }
        for (long u : f.item.pressed) {
            if (!now.contains(u)) events.add(new long[] {shape.fields.indexOf(f), u, 0});
        }
        for (long u : now) {
            if (!f.item.pressed.contains(u)) events.add(new long[] {shape.fields.indexOf(f), u, 1});
        }
        f.item.pressed = now;
    }

    private long lastOf(int i) {
        if (i < 0 || i >= shape.fields.size()) return UNKNOWN;
        Field f = shape.fields.get(i);
        return f.slot ? f.item.pressed.size() : f.last;
    }

    private long setWanted(int i, int n) {
        if (i < 0 || i >= shape.fields.size()) return UNKNOWN;
        Field f = shape.fields.get(i);
        if (f.slot || f.way == 0) return STATE;
        if (n < f.least || n > f.most) return OUTSIDE;
        long was = f.wanted;
        f.wanted = n;
        return was;
    }

    private int byteOf(int way, int id, int k) {
        if (way < 1 || way > 2 || id < 0 || id > 15) return OUTSIDE;
        boolean[] bits = new boolean[(shape.bits[way][id] + 7) / 8 * 8];
        if (bits.length == 0) return NONE;
        for (Field f : shape.fields) {
            if (f.way != way || f.id != id || f.slot) continue;
            long number = Math.floorMod(f.wanted, 1L << f.size);
            for (int i = 0; i < f.size; i++) bits[f.firstBit + i] = number / (1L << i) % 2 == 1;
        }
        List<Integer> bytes = new ArrayList<>();
        if (named()) bytes.add(id);
        for (int i = 0; i < bits.length; i += 8) {
            int b = 0;
            for (int j = 7; j >= 0; j--) b = b * 2 + (bits[i + j] ? 1 : 0);
            bytes.add(b);
        }
        if (k == -1) return bytes.size();
        return k < 0 || k >= bytes.size() ? NONE : bytes.get(k);
    }

    private int countOf(int what) {
        if (what < 0 || what > 7) return OUTSIDE;
        return new int[] {shape.fields.size(), shape.groups.size(), events.size(), program.size(), letter.size(),
            came, told, kept}[what];
    }
}
