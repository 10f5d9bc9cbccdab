/** For each promise of the document its ordinary answers, its edges and its refusals, worked out by hand. */
public final class PromisesTest {
    private static final int UNKNOWN = -1, OUTSIDE = -2, STATE = -3, FULL = -4, NO = -5, NONE = -6, FAULT = -7;
    private static final int LOWEST = Integer.MIN_VALUE, HIGHEST = Integer.MAX_VALUE;
    // SORTS and TAGS by their words.
    private static final int[] IN = {0, 8}, OUT = {0, 9}, BOTH = {0, 11}, GROUP = {0, 10}, END = {0, 12};
    private static final int[] PAGE = {1, 0}, LEAST = {1, 1}, MOST = {1, 2}, SIZE = {1, 7}, ID = {1, 8}, MANY = {1, 9};
    private static final int[] PUSH = {1, 10}, POP = {1, 11}, USE = {2, 0}, FIRST = {2, 1}, UPTO = {2, 2};
    // What N of a FIELDS' ITEM tells.
    private static final int SLOTS = 0, NOTHING = 1, VALUES = 2, STEPS = 6;

    private static int wrong = 0;
    private static int promise = 0;

    private static void due(String call, int got, int want) {
        if (got != want) {
            wrong++;
            System.out.println("promise " + promise + ": " + call + " answered " + got + ", due is " + want);
        }
    }

    private static ShapeReports fresh() {
        return new ShapeReports();
    }

    private static void add(ShapeReports x, int[] word, int n) {
        x.item(word[0], word[1], n);
    }

    private static void say(ShapeReports x, int... bytes) {
        for (int b : bytes) x.say(b);
    }

    private static int come(ShapeReports x, int... bytes) {
        for (int b : bytes) x.put(b);
        return x.come();
    }

    private static void dueEvent(String name, ShapeReports x, int field, int use, int number) {
        due(name + " event(0)", x.event(0), field);
        due(name + " event(1)", x.event(1), use);
        due(name + " event(2)", x.event(2), number);
        x.next();
    }

    private static void dueWritten(ShapeReports x, int i, String text) {
        due("written(" + i + ", -1) of '" + text + "'", x.written(i, -1), text.length());
        for (int k = 0; k < text.length(); k++) {
            due("written(" + i + ", " + k + ") of '" + text + "'", x.written(i, k), text.charAt(k));
        }
        due("written(" + i + ", behind '" + text + "')", x.written(i, text.length()), NONE);
    }

    /** One VALUE of WAY 0, of eight BITS, 0 to 100, with the USE 5. */
    private static ShapeReports oneValue() {
        ShapeReports x = fresh();
        add(x, MOST, 100);
        add(x, SIZE, 8);
        add(x, MANY, 1);
        add(x, USE, 5);
        add(x, IN, VALUES);
        x.read();
        return x;
    }

    /** Four SLOTS of WAY 0, of eight BITS, 1 to 6, with the USES 9, 4, 9, 7; the numbers 5 and 6 hit none. */
    private static ShapeReports fourSlots() {
        ShapeReports x = fresh();
        add(x, LEAST, 1);
        add(x, MOST, 6);
        add(x, SIZE, 8);
        add(x, MANY, 4);
        add(x, USE, 9);
        add(x, USE, 4);
        add(x, USE, 9);
        add(x, USE, 7);
        add(x, IN, SLOTS);
        x.read();
        return x;
    }

    private static void newObject() {
        promise = 1;
        ShapeReports x = fresh();
        for (int what = 0; what <= 7; what++) due("count(" + what + ")", x.count(what), 0);
        due("fault(0)", x.fault(0), 0);
        due("fault(1)", x.fault(1), NONE);
        due("fault(2)", x.fault(2), 0);
        due("written(0, -1)", x.written(0, -1), NONE);
        due("field(0, 0)", x.field(0, 0), UNKNOWN);
        due("group(0, 0)", x.group(0, 0), NONE);
        for (int way = 0; way <= 2; way++) {
            for (int id = 0; id <= 15; id++) due("length(" + way + ", " + id + ")", x.length(way, id), 0);
        }
        due("event(0)", x.event(0), NONE);
        due("next()", x.next(), NONE);
        due("last(0)", x.last(0), UNKNOWN);
        due("want(0, 0)", x.want(0, 0), UNKNOWN);
        due("made(1, 0, -1)", x.made(1, 0, -1), NONE);
        due("come()", x.come(), NO);
        due("restore(0)", x.restore(0), STATE);
        due("restore(1)", x.restore(1), STATE);
        due("UNKNOWN", ShapeReports.UNKNOWN, UNKNOWN);
        due("OUTSIDE", ShapeReports.OUTSIDE, OUTSIDE);
        due("STATE", ShapeReports.STATE, STATE);
        due("FULL", ShapeReports.FULL, FULL);
        due("NO", ShapeReports.NO, NO);
        due("NONE", ShapeReports.NONE, NONE);
        due("FAULT", ShapeReports.FAULT, FAULT);
    }

    private static void saying() {
        promise = 2;
        ShapeReports x = fresh();
        due("say(-1)", x.say(-1), OUTSIDE);
        due("say(256)", x.say(256), OUTSIDE);
        due("say(lowest)", x.say(LOWEST), OUTSIDE);
        due("say(highest)", x.say(HIGHEST), OUTSIDE);
        due("count(3)", x.count(3), 0);
        due("say(0)", x.say(0), 1);
        due("say(255)", x.say(255), 2);
        for (int n = 3; n <= 96; n++) due("say(4)", x.say(4), n);
        due("say(4), the 97th", x.say(4), FULL);
        due("say(256), the 97th", x.say(256), OUTSIDE);
        due("count(3)", x.count(3), 96);
    }

    private static void wiping() {
        promise = 3;
        ShapeReports x = oneValue();
        due("wipe()", x.wipe(), 10);
        due("wipe()", x.wipe(), 0);
        due("count(3)", x.count(3), 0);
        due("count(0)", x.count(0), 1);
        due("field(0, 3)", x.field(0, 3), 8);
        due("fault(2)", x.fault(2), 0);
        due("written(0, 0)", x.written(0, 0), NONE);
        due("come", come(x, 7), 1);
    }

    private static void items() {
        promise = 4;
        ShapeReports x = fresh();
        int[] n = {0, 1, -1, 127, -128, 128, -129, 255, 32767, -32768};
        int[] bytes = {1, 2, 2, 2, 2, 3, 3, 3, 3, 3};
        int sum = 0;
        for (int i = 0; i < n.length; i++) {
            sum += bytes[i];
            due("item(1, 1, " + n[i] + ")", x.item(1, 1, n[i]), sum);
        }
        dueWritten(x, 0, "least");
        for (int i = 1; i < n.length; i++) dueWritten(x, i, "least " + n[i]);
        due("wipe()", x.wipe(), sum);
        due("item(2, 15, -1)", x.item(2, 15, -1), 2);
        due("item(2, 0, -2)", x.item(2, 0, -2), 4);
        due("item(2, 0, -300)", x.item(2, 0, -300), 7);
        dueWritten(x, 0, "what 255");
        dueWritten(x, 1, "use 254");
        dueWritten(x, 2, "use 65236");
        due("item(-1, 0, 0)", x.item(-1, 0, 0), OUTSIDE);
        due("item(3, 0, 0)", x.item(3, 0, 0), OUTSIDE);
        due("item(0, -1, 0)", x.item(0, -1, 0), OUTSIDE);
        due("item(0, 16, 0)", x.item(0, 16, 0), OUTSIDE);
        due("item(0, 0, 32768)", x.item(0, 0, 32768), OUTSIDE);
        due("item(0, 0, -32769)", x.item(0, 0, -32769), OUTSIDE);
        due("item(lowest, highest, lowest)", x.item(LOWEST, HIGHEST, LOWEST), OUTSIDE);
        due("count(3)", x.count(3), 7);
        for (int i = 7; i < 94; i++) x.say(4);
        due("item of three at 94", x.item(1, 0, 200), FULL);
        due("item of two at 94", x.item(1, 0, 100), 96);
        due("item of one at 96", x.item(1, 0, 0), FULL);
        due("item OUTSIDE at 96", x.item(1, 16, 0), OUTSIDE);
        x.wipe();
        for (int i = 0; i < 95; i++) x.say(4);
        due("item of two at 95", x.item(1, 0, 100), FULL);
        due("item of one at 95", x.item(1, 0, 0), 96);
    }

    private static void reading() {
        promise = 5;
        ShapeReports x = oneValue();
        due("count(3)", x.count(3), 10);
        due("come", come(x, 7), 1);
        x.put(3);
        due("item", x.item(0, 10, 0), 11);
        due("read()", x.read(), FAULT);
        due("count(6)", x.count(6), 15);
        due("count(0)", x.count(0), 1);
        due("count(1)", x.count(1), 0);
        due("count(2)", x.count(2), 1);
        due("count(4)", x.count(4), 1);
        due("last(0)", x.last(0), 7);
        add(x, OUT, VALUES);
        add(x, END, 0);
        due("read()", x.read(), 2);
        due("count(6)", x.count(6), 0);
        due("count(0)", x.count(0), 2);
        due("count(1)", x.count(1), 1);
        due("count(2)", x.count(2), 0);
        due("count(3)", x.count(3), 14);
        due("count(4)", x.count(4), 0);
        due("count(5)", x.count(5), 1);
        due("last(0)", x.last(0), 0);
        due("want", x.want(1, 9), 0);
        due("want", x.want(1, 9), 9);
        due("read()", x.read(), 2);
        due("length(0, 0)", x.length(0, 0), 8);
        due("made", x.made(1, 0, 0), 0);
        due("want", x.want(1, 9), 0);
        x = fourSlots();
        come(x, 1, 2, 0, 0);
        due("last(0)", x.last(0), 2);
        due("read()", x.read(), 4);
        due("last(0)", x.last(0), 0);
        due("come", come(x, 1, 0, 0, 0), 1);
        dueEvent("pressed anew", x, 0, 9, 1);
        x.wipe();
        due("read() of an empty program", x.read(), 0);
        due("count(0)", x.count(0), 0);
        due("length(0, 0)", x.length(0, 0), 0);
        due("come", come(x, 1), NO);
        readingAnew();
    }

    /** Nothing of a program that was read before is left in the next one. */
    private static void readingAnew() {
        ShapeReports x = fresh();
        add(x, PAGE, 3);
        add(x, LEAST, -4);
        add(x, MOST, 5);
        add(x, SIZE, 6);
        add(x, ID, 7);
        add(x, MANY, 2);
        add(x, PUSH, 0);
        add(x, IN, VALUES);
        add(x, FIRST, 5);
        add(x, USE, 9);
        due("read()", x.read(), 2);
        x.wipe();
        add(x, SIZE, 1);
        add(x, IN, VALUES);
        due("read() without MANY", x.read(), FAULT);
        x.wipe();
        add(x, MANY, 1);
        add(x, IN, VALUES);
        due("read() without SIZE", x.read(), FAULT);
        add(x, POP, 0);
        due("fault(0)", x.fault(0), 11);
        x.wipe();
        add(x, POP, 0);
        due("read() of a pop alone", x.read(), FAULT);
        x.wipe();
        add(x, SIZE, 1);
        add(x, MANY, 1);
        add(x, UPTO, 1);
        add(x, IN, SLOTS);
        due("read()", x.read(), 1);
        dueField(x, 0, 0, 0, 0, 1, 0, 0, 1, 0, 0, 2, 0, NONE);
        due("length(0, 7)", x.length(0, 7), 0);
        x.wipe();
        add(x, SIZE, 1);
        add(x, MANY, 1);
        add(x, MOST, 1);
        add(x, UPTO, 31);
        add(x, IN, SLOTS);
        for (int i = 0; i < 40; i++) due("read()", x.read(), 1);
        due("come", come(x, 1), 1);
        dueEvent("of the 40th", x, 0, 1, 1);
    }

    private static void dueFault(ShapeReports x, int number, int place) {
        due("fault(0)", x.fault(0), number);
        due("fault(1)", x.fault(1), place);
        due("read()", x.read() == FAULT ? FAULT : 0, number == 0 ? 0 : FAULT);
        due("count(6)", x.count(6), number);
    }

    private static ShapeReports ofBytes(int... bytes) {
        ShapeReports x = fresh();
        say(x, bytes);
        return x;
    }

    private static ShapeReports sized(int size, int many) {
        ShapeReports x = fresh();
        add(x, SIZE, size);
        add(x, MANY, many);
        return x;
    }

    private static void faultsOfBytes() {
        promise = 6;
        due("fault(-1)", fresh().fault(-1), OUTSIDE);
        due("fault(3)", fresh().fault(3), OUTSIDE);
        dueFault(fresh(), 0, NONE);
        dueFault(ofBytes(5), 1, 0);
        dueFault(ofBytes(4, 6, 1), 1, 1);
        dueFault(ofBytes(4, 6, 1, 2), 0, NONE);
        dueFault(ofBytes(4, 7, 1, 2, 3), 1, 1);
        dueFault(ofBytes(4, 7, 1, 2, 3, 4), 0, NONE);
        dueFault(ofBytes(15), 1, 0);
        dueFault(ofBytes(4, 12), 2, 1);
        dueFault(ofBytes(252), 2, 0);
        ShapeReports whole = fresh();
        for (int i = 0; i < 95; i++) whole.say(4);
        whole.say(252);
        dueFault(whole, 2, 95);
        due("fault(2) of 96 items", whole.fault(2), 96);
        for (int tag = 0; tag <= 15; tag++) {
            if (tag < 8 || tag > 12) dueFault(ofBytes(8, tag * 16), 2, 1);
            dueFault(ofBytes(tag * 16 + 8), 0, NONE);
        }
        for (int tag = 3; tag <= 6; tag++) dueFault(ofBytes(tag * 16 + 5, 200), 0, NONE);
        for (int tag = 12; tag <= 15; tag++) dueFault(ofBytes(tag * 16 + 5, 200), 0, NONE);
        due("fault(2)", ofBytes(4, 252, 7, 1, 2, 3).fault(2), 2);
        due("fault(2)", ofBytes(4, 252, 7, 1, 2, 3, 4).fault(2), 3);
        due("fault(2)", ofBytes(5).fault(2), 0);
    }

    private static void faultsOfNumbers() {
        dueFault(ofBytes(7 * 16 + 5, 31), 0, NONE);
        dueFault(ofBytes(4, 7 * 16 + 5, 32), 3, 1);
        dueFault(ofBytes(7 * 16 + 7, 31, 0, 0, 128), 0, NONE);
        dueFault(ofBytes(7 * 16 + 6, 0, 1), 3, 0);
        dueFault(ofBytes(8 * 16 + 4), 4, 0);
        dueFault(ofBytes(8 * 16 + 5, 1), 0, NONE);
        dueFault(ofBytes(8 * 16 + 5, 15), 0, NONE);
        dueFault(ofBytes(8 * 16 + 5, 16), 4, 0);
        dueFault(ofBytes(8 * 16 + 7, 0, 0, 0, 128), 4, 0);
        dueFault(ofBytes(9 * 16 + 5, 40), 0, NONE);
        dueFault(ofBytes(9 * 16 + 5, 41), 5, 0);
        int push = 10 * 16 + 4, pop = 11 * 16 + 4;
        dueFault(ofBytes(push, push, push, push), 0, NONE);
        dueFault(ofBytes(push, push, push, push, push), 6, 4);
        dueFault(ofBytes(push, push, push, push, pop, push), 0, NONE);
        dueFault(ofBytes(push, pop, pop), 7, 2);
        dueFault(ofBytes(pop), 7, 0);
    }

    private static void faultsOfUses() {
        int use = 8, first = 16 + 9, upto = 32 + 9;
        ShapeReports x = ofBytes(upto, 31);
        dueFault(x, 0, NONE);
        say(x, 3 * 16 + 8, first, 9, upto, 8);
        dueFault(x, 0, NONE);
        x.say(use);
        dueFault(x, 8, 7);
        dueFault(ofBytes(upto, 32), 8, 0);
        dueFault(ofBytes(use, upto, 31), 8, 1);
        dueFault(ofBytes(first, 10, upto, 41), 0, NONE);
        dueFault(ofBytes(first, 10, upto, 42), 8, 2);
        dueFault(ofBytes(first, 10, upto, 9, upto, 41), 0, NONE);
        dueFault(ofBytes(32 + 11, 255, 255, 255, 127), 8, 0);
        dueFault(ofBytes(16 + 11, 240, 255, 255, 127, 32 + 11, 255, 255, 255, 127), 0, NONE);
        dueFault(ofBytes(upto, 31, 160, 192, upto, 31), 0, NONE);
        dueFault(ofBytes(first, 10, 160, upto, 31, 192), 0, NONE);
        dueFault(ofBytes(first, 10, 160, upto, 32, 192), 8, 3);
    }

    private static void faultsOfGroups() {
        int group = 160, end = 192;
        ShapeReports x = fresh();
        for (int i = 0; i < 12; i++) say(x, group, end);
        dueFault(x, 0, NONE);
        x.say(group);
        dueFault(x, 9, 24);
        dueFault(ofBytes(end), 10, 0);
        dueFault(ofBytes(group, end, end), 10, 2);
        dueFault(ofBytes(group, group, end), 15, 3);
        dueFault(ofBytes(group), 15, 1);
    }

    private static void faultsOfFields() {
        for (int[] way : new int[][] {IN, OUT, BOTH}) {
            for (int n : new int[] {SLOTS, NOTHING, VALUES}) {
                ShapeReports x = sized(0, 1);
                add(x, way, n);
                dueFault(x, 11, 3);
                x = sized(1, 0);
                add(x, way, n);
                dueFault(x, 11, 3);
                x = sized(1, 1);
                add(x, LEAST, 1);
                add(x, way, n);
                dueFault(x, n == NOTHING ? 0 : 12, n == NOTHING ? NONE : 6);
                x = sized(16, 16);
                add(x, way, n);
                dueFault(x, 0, NONE);
                add(x, SIZE, 1);
                add(x, MANY, 1);
                add(x, way, n);
                dueFault(x, 13, n == SLOTS ? 9 : 10);
            }
        }
        ShapeReports x = sized(0, 0);
        add(x, LEAST, 1);
        add(x, IN, VALUES);
        dueFault(x, 11, 4);
        x = sized(31, 40);
        add(x, LEAST, 1);
        add(x, IN, VALUES);
        dueFault(x, 12, 6);
        x = sized(31, 40);
        add(x, IN, VALUES);
        add(x, IN, VALUES);
        dueFault(x, 13, 4);
        x = sized(1, 40);
        add(x, IN, VALUES);
        add(x, MANY, 8);
        add(x, OUT, SLOTS);
        dueFault(x, 0, NONE);
        add(x, MANY, 40);
        add(x, BOTH, NOTHING);
        dueFault(x, 0, NONE);
        add(x, MANY, 1);
        add(x, BOTH, VALUES);
        dueFault(x, 14, 15);
        x = sized(1, 1);
        add(x, IN, VALUES);
        add(x, ID, 3);
        add(x, OUT, NOTHING);
        dueFault(x, 0, NONE);
        add(x, OUT, SLOTS);
        dueFault(x, 16, 11);
        add(x, GROUP, 0);
        dueFault(x, 15, 12);
        x = sized(1, 1);
        add(x, PUSH, 0);
        add(x, ID, 3);
        add(x, IN, VALUES);
        add(x, POP, 0);
        add(x, IN, NOTHING);
        dueFault(x, 0, NONE);
        add(x, IN, SLOTS);
        dueFault(x, 16, 13);
    }

    private static void writing() {
        promise = 7;
        String[][] words = {
            {null, null, null, null, null, null, null, null, "in", "out", "group", "both", "end"},
            {"page", "least", "most", null, null, null, null, "size", "id", "many", "push", "pop"},
            {"use", "first", "upto"}, {}};
        for (int sort = 0; sort <= 3; sort++) {
            for (int tag = 0; tag <= 15; tag++) {
                String told = tag < words[sort].length ? words[sort][tag] : null;
                String word = told == null ? "what" : told;
                boolean isSigned = sort == 1 && (tag == 1 || tag == 2);
                int b = tag * 16 + sort * 4;
                ShapeReports x = ofBytes(b, b + 1, 0, b + 1, 200, b + 2, 255, 255, b + 2, 16, 39);
                dueWritten(x, 0, word);
                dueWritten(x, 1, word + " 0");
                dueWritten(x, 2, word + (isSigned ? " -56" : " 200"));
                dueWritten(x, 3, word + (isSigned ? " -1" : " 65535"));
                dueWritten(x, 4, word + " 10000");
                x = ofBytes(b + 3, 0, 0, 0, 128, b + 3, 255, 255, 255, 127, b + 3, 255, 255, 255, 255);
                dueWritten(x, 0, word + (isSigned ? " -2147483648" : " 0"));
                dueWritten(x, 1, word + " 2147483647");
                dueWritten(x, 2, word + (isSigned ? " -1" : " 2147483647"));
            }
        }
        for (int n : new int[] {1, 9, 10, 11, 89, 90, 99, 100, 101, 127, 999, 1000, 9000, 9999, 10000, 32767}) {
            ShapeReports y = fresh();
            add(y, MOST, n);
            add(y, MOST, -n);
            dueWritten(y, 0, "most " + n);
            dueWritten(y, 1, "most -" + n);
        }
        ShapeReports x = ofBytes(4, 8, 7, 1, 2, 3);
        dueWritten(x, 1, "use");
        due("written of one that has not all its bytes", x.written(2, -1), NONE);
        due("written(2, 0)", x.written(2, 0), NONE);
        due("written(3, -1)", x.written(3, -1), NONE);
        due("written(-1, 0)", x.written(-1, 0), NONE);
        due("written(-1, -1)", x.written(-1, -1), NONE);
        due("written(0, -2)", x.written(0, -2), NONE);
        due("written(lowest, lowest)", x.written(LOWEST, LOWEST), NONE);
        due("written(highest, highest)", x.written(HIGHEST, HIGHEST), NONE);
        due("written(0, highest)", x.written(0, HIGHEST), NONE);
        x = fresh();
        for (int i = 0; i < 96; i++) x.say(8);
        dueWritten(x, 95, "use");
        due("written(96, -1)", x.written(96, -1), NONE);
    }

    private static void dueField(ShapeReports x, int f, int... told) {
        for (int what = 0; what < told.length; what++) {
            due("field(" + f + ", " + what + ")", x.field(f, what), told[what]);
        }
    }

    private static void fields() {
        promise = 8;
        ShapeReports x = fresh();
        add(x, PAGE, 300);
        add(x, LEAST, -5);
        add(x, MOST, 200);
        add(x, SIZE, 3);
        add(x, ID, 7);
        add(x, MANY, 3);
        add(x, USE, 40);
        add(x, USE, 30);
        add(x, GROUP, 1);
        add(x, USE, 11);
        add(x, USE, 12);
        add(x, IN, STEPS);
        add(x, GROUP, 2);
        add(x, PUSH, 0);
        add(x, MANY, 2);
        add(x, FIRST, 6);
        add(x, UPTO, 9);
        add(x, IN, 4);
        add(x, PAGE, 8);
        add(x, END, 0);
        add(x, OUT, NOTHING);
        add(x, SIZE, 31);
        add(x, MANY, 1);
        add(x, OUT, VALUES);
        add(x, POP, 0);
        add(x, END, 0);
        add(x, BOTH, SLOTS);
        due("read()", x.read(), 9);
        dueField(x, 0, 0, 7, 0, 3, -5, 200, 0, 1, 300, 1, 11, 0);
        dueField(x, 1, 0, 7, 3, 3, -5, 200, 0, 1, 300, 1, 12, 0);
        dueField(x, 2, 0, 7, 6, 3, -5, 200, 0, 1, 300, 1, 12, 0);
        dueField(x, 3, 0, 7, 9, 3, -5, 200, 1, 0, 300, 4, 6, 1);
        dueField(x, 4, 0, 7, 12, 3, -5, 200, 1, 0, 300, 4, 6, 1);
        dueField(x, 5, 1, 7, 6, 31, -5, 200, 0, 0, 8, 1, 0, 0);
        for (int k = 0; k < 3; k++) dueField(x, 6 + k, 2, 7, 3 * k, 3, -5, 200, 1, 0, 300, 0, 0, NONE);
        due("field(0, -1)", x.field(0, -1), OUTSIDE);
        due("field(0, 12)", x.field(0, 12), OUTSIDE);
        due("field(0, lowest)", x.field(0, LOWEST), OUTSIDE);
        due("field(-1, 0)", x.field(-1, 0), UNKNOWN);
        due("field(9, 0)", x.field(9, 0), UNKNOWN);
        due("field(9, 12)", x.field(9, 12), UNKNOWN);
        due("field(highest, highest)", x.field(HIGHEST, HIGHEST), UNKNOWN);
        fieldsOfWideNumbers();
        fieldsByKind();
        fieldsBehindPop();
    }

    private static void fieldsByKind() {
        int[] n = {0, 2, 4, 6, 8, 10, 12, 14, 256, 258, 260, 262};
        ShapeReports x = sized(1, 1);
        for (int k : n) add(x, OUT, k);
        due("read()", x.read(), n.length);
        for (int f = 0; f < n.length; f++) {
            due("field(" + f + ", 6)", x.field(f, 6), n[f] / 2 % 2 == 0 ? 1 : 0);
            due("field(" + f + ", 7)", x.field(f, 7), n[f] % 8 == 6 ? 1 : 0);
        }
    }

    private static void fieldsBehindPop() {
        ShapeReports x = fresh();
        int[][] words = {PAGE, LEAST, MOST, SIZE, ID, MANY};
        for (int round = 1; round <= 3; round++) {
            for (int[] word : words) add(x, word, round);
            if (round < 3) add(x, PUSH, 0);
        }
        add(x, IN, VALUES);
        add(x, POP, 0);
        add(x, IN, VALUES);
        add(x, POP, 0);
        add(x, IN, VALUES);
        due("read()", x.read(), 6);
        int[] first = {0, 3, 5};
        for (int i = 0; i < 3; i++) {
            int n = 3 - i;
            dueField(x, first[i], 0, n, 0, n, n, n, 0, 0, n, 1, 0, NONE);
            due("length(0, " + n + ")", x.length(0, n), n * n);
        }
    }

    private static void fieldsOfWideNumbers() {
        ShapeReports x = sized(31, 1);
        say(x, 7, 255, 255, 255, 255, 16 + 7, 0, 0, 0, 128, 32 + 7, 255, 255, 255, 127);
        say(x, 16 + 11, 254, 255, 255, 127, 32 + 11, 255, 255, 255, 127, 8 * 16 + 3, 0, 0, 0, 128);
        due("read()", x.read(), 1);
        dueField(x, 0, 0, 0, 0, 31, LOWEST, HIGHEST, 1, 0, HIGHEST, 2, HIGHEST - 1, NONE);
    }

    private static void groups() {
        promise = 9;
        ShapeReports x = sized(1, 2);
        add(x, USE, 33);
        add(x, USE, 34);
        add(x, GROUP, 200);
        add(x, IN, VALUES);
        add(x, GROUP, 0);
        add(x, USE, 35);
        add(x, GROUP, 3);
        add(x, OUT, SLOTS);
        add(x, END, 0);
        add(x, IN, NOTHING);
        add(x, END, 0);
        add(x, FIRST, 9);
        add(x, GROUP, 4);
        add(x, END, 0);
        add(x, BOTH, VALUES);
        add(x, END, 0);
        add(x, GROUP, 5);
        add(x, IN, VALUES);
        add(x, END, 0);
        add(x, IN, VALUES);
        due("read()", x.read(), 10);
        int[][] told = {{200, 33, NONE, 6}, {0, 0, 0, 2}, {3, 35, 1, 2}, {4, 0, 0, 0}, {5, 0, NONE, 2}};
        for (int g = 0; g < told.length; g++) {
            for (int what = 0; what <= 3; what++) {
                due("group(" + g + ", " + what + ")", x.group(g, what), told[g][what]);
            }
            due("group(" + g + ", -1)", x.group(g, -1), OUTSIDE);
            due("group(" + g + ", 4)", x.group(g, 4), OUTSIDE);
        }
        due("field(9, 11)", x.field(9, 11), NONE);
        due("group(5, 0)", x.group(5, 0), NONE);
        due("group(-1, 3)", x.group(-1, 3), NONE);
        due("group(-6, 3)", x.group(-6, 3), NONE);
        due("group(lowest, 0)", x.group(LOWEST, 0), NONE);
        due("group(5, 4)", x.group(5, 4), OUTSIDE);
        due("group(highest, lowest)", x.group(HIGHEST, LOWEST), OUTSIDE);
        x = sized(1, 1);
        for (int g = 0; g < 12; g++) add(x, GROUP, g);
        add(x, IN, VALUES);
        for (int g = 0; g < 12; g++) add(x, END, 0);
        due("read()", x.read(), 1);
        for (int g = 0; g < 12; g++) due("group(" + g + ", 3), twelve deep", x.group(g, 3), 1);
    }

    private static void lengths() {
        promise = 10;
        ShapeReports x = sized(5, 3);
        add(x, IN, NOTHING);
        add(x, ID, 15);
        add(x, IN, VALUES);
        add(x, OUT, SLOTS);
        add(x, SIZE, 2);
        add(x, OUT, NOTHING);
        add(x, BOTH, VALUES);
        add(x, SIZE, 31);
        add(x, MANY, 8);
        add(x, BOTH, NOTHING);
        due("read()", x.read(), 9);
        due("length(0, 0)", x.length(0, 0), 15);
        due("length(0, 15)", x.length(0, 15), 15);
        due("length(1, 15)", x.length(1, 15), 21);
        due("length(2, 15)", x.length(2, 15), 254);
        due("length(1, 0)", x.length(1, 0), 0);
        due("length(0, 14)", x.length(0, 14), 0);
        due("length(-1, 0)", x.length(-1, 0), OUTSIDE);
        due("length(3, 0)", x.length(3, 0), OUTSIDE);
        due("length(0, -1)", x.length(0, -1), OUTSIDE);
        due("length(0, 16)", x.length(0, 16), OUTSIDE);
        due("length(lowest, highest)", x.length(LOWEST, HIGHEST), OUTSIDE);
    }

    private static void putting() {
        promise = 11;
        ShapeReports x = fresh();
        due("put(-1)", x.put(-1), OUTSIDE);
        due("put(256)", x.put(256), OUTSIDE);
        for (int n = 1; n <= 33; n++) due("put(" + (n + 222) + ")", x.put(n + 222), n);
        due("put(0), the 34th", x.put(0), FULL);
        due("put(256), the 34th", x.put(256), OUTSIDE);
        due("count(4)", x.count(4), 33);
        x = sized(8, 32);
        add(x, LEAST, -1);
        add(x, ID, 9);
        add(x, IN, VALUES);
        due("read()", x.read(), 32);
        due("put(9)", x.put(9), 1);
        for (int n = 2; n <= 33; n++) due("put(255)", x.put(255), n);
        due("come()", x.come(), 32);
        due("count(4)", x.count(4), 0);
    }

    private static void lettersRefused() {
        promise = 12;
        ShapeReports x = oneValue();
        due("come of none", x.come(), NO);
        due("come of two", come(x, 1, 2), NO);
        due("count(4)", x.count(4), 0);
        due("count(5)", x.count(5), 0);
        due("last(0)", x.last(0), 0);
        due("come of one", come(x, 1), 1);
        due("count(4)", x.count(4), 0);
        due("count(5)", x.count(5), 1);
        x = sized(4, 3);
        add(x, IN, NOTHING);
        add(x, ID, 15);
        add(x, OUT, VALUES);
        add(x, IN, VALUES);
        due("read()", x.read(), 6);
        due("the ID alone", come(x, 15), NO);
        due("one of two", come(x, 15, 0), NO);
        due("three of two", come(x, 15, 0, 0, 0), NO);
        due("no such ID", come(x, 14, 0, 0), NO);
        due("the ID of no bits alone", come(x, 14), NO);
        due("ID 16", come(x, 16, 0, 0), NO);
        due("ID 255", come(x, 255, 0, 0), NO);
        due("without ID", come(x, 0, 0), NO);
        due("ID 0, that has no fields", come(x, 0, 255, 255), 0);
        due("as told", come(x, 15, 0, 240), 0);
        due("count(5)", x.count(5), 2);
        x = sized(4, 3);
        add(x, ID, 15);
        add(x, IN, NOTHING);
        due("read()", x.read(), 0);
        due("no field: ID 0, that has no bits", come(x, 15, 0, 0), NO);
        due("no field: ID 0, that has no bits", come(x, 0, 0), NO);
    }

    private static void lettersOfFewBits() {
        for (int many : new int[] {1, 8, 9, 16, 17}) {
            int bytes = many <= 8 ? 1 : many <= 16 ? 2 : 3;
            ShapeReports x = sized(1, many);
            add(x, MOST, 1);
            add(x, IN, VALUES);
            add(x, OUT, VALUES);
            due("read()", x.read(), 2 * many);
            int[] all = new int[bytes + 1];
            java.util.Arrays.fill(all, 255);
            due("a byte too many", come(x, all), NO);
            due("a byte too few", come(x, java.util.Arrays.copyOf(all, bytes - 1)), NO);
            due("as told", come(x, java.util.Arrays.copyOf(all, bytes)), many);
            due("made(1, 0, -1)", x.made(1, 0, -1), bytes);
        }
    }

    /** 99 EVENTS, and a letter of 48 SLOTS that lets 48 USES go and presses 48. */
    private static void mostEvents() {
        ShapeReports x = sized(5, 16);
        add(x, MOST, 31);
        for (int i = 0; i < 3; i++) {
            add(x, UPTO, 31);
            add(x, IN, SLOTS);
        }
        due("read()", x.read(), 48);
        int[] low = slotBytes(0), high = slotBytes(16);
        due("48 pressed", come(x, low), 48);
        due("48 go, 48 come", come(x, high), 96);
        for (int left = 143; left >= 99; left--) due("next()", x.next(), left);
        due("48 go, 48 come", come(x, low), 96);
        due("count(2)", x.count(2), 195);
        x.image(0);
        for (int left = 194; left >= 1; left--) x.next();
        dueEvent("the last one", x, 32, 15, 1);
        x.restore(0);
        due("count(2)", x.count(2), 195);
        due("event(1)", x.event(1), 13);
    }

    /** 48 numbers of five bits, three times from 'from' to 'from' and 15. */
    private static int[] slotBytes(int from) {
        int[] bytes = new int[30];
        for (int bit = 0; bit < 240; bit++) {
            int number = from + bit / 5 % 16;
            bytes[bit / 8] |= (number >> bit % 5 & 1) << bit % 8;
        }
        return bytes;
    }

    private static void lettersWhenFull() {
        ShapeReports x = sized(8, 20);
        add(x, LEAST, -128);
        add(x, MOST, 127);
        add(x, IN, VALUES);
        due("read()", x.read(), 20);
        int[] ones = new int[20], twos = new int[20];
        java.util.Arrays.fill(ones, 1);
        java.util.Arrays.fill(twos, 2);
        due("1", come(x, ones), 20);
        due("2", come(x, twos), 20);
        due("3", come(x, ones), 20);
        due("4", come(x, twos), 20);
        ones[0] = 2;
        due("5", come(x, ones), 19);
        due("count(2)", x.count(2), 99);
        due("6, behind 99", come(x, twos), 19);
        due("count(2)", x.count(2), 118);
        due("7, behind 118", come(x, ones), FULL);
        due("count(4)", x.count(4), 20);
        due("count(5)", x.count(5), 6);
        due("last(1)", x.last(1), 2);
        x.put(0);
        due("NO goes ahead of FULL", x.come(), NO);
        due("count(4)", x.count(4), 0);
        for (int left = 117; left >= 100; left--) due("next()", x.next(), left);
        due("8, behind 100", come(x, ones), FULL);
        due("next()", x.next(), 99);
        due("8, behind 99", x.come(), 19);
        due("last(1)", x.last(1), 1);
        due("event(0)", x.event(0), 19);
        due("event(2)", x.event(2), 1);
        dueEvent("the 20th of letter 1", x, 19, 0, 1);
        dueEvent("the first of letter 2", x, 0, 0, 2);
    }

    private static void values() {
        ShapeReports x = oneValue();
        due("0, as at first", come(x, 0), 0);
        due("100", come(x, 100), 1);
        due("100 again", come(x, 100), 0);
        due("101", come(x, 101), 0);
        due("last(0)", x.last(0), 100);
        due("255", come(x, 255), 0);
        due("0", come(x, 0), 1);
        due("last(0)", x.last(0), 0);
        dueEvent("100", x, 0, 5, 100);
        dueEvent("0", x, 0, 5, 0);
        due("count(2)", x.count(2), 0);
        x = sized(8, 1);
        add(x, LEAST, -100);
        add(x, MOST, 100);
        add(x, USE, 3);
        add(x, IN, STEPS);
        due("read()", x.read(), 1);
        due("step 0", come(x, 0), 0);
        due("step -1", come(x, 255), 1);
        due("step -1 again", come(x, 255), 1);
        due("last(0)", x.last(0), -1);
        due("step -101", come(x, 155), 0);
        due("last(0)", x.last(0), -1);
        due("step 0", come(x, 0), 0);
        due("last(0)", x.last(0), 0);
        due("step -100", come(x, 156), 1);
        dueEvent("first", x, 0, 3, -1);
        dueEvent("second", x, 0, 3, -1);
        dueEvent("third", x, 0, 3, -100);
        valuesAcrossBytes();
    }

    private static void valuesAcrossBytes() {
        ShapeReports x = sized(3, 1);
        add(x, IN, NOTHING);
        add(x, MOST, 32767);
        add(x, SIZE, 15);
        add(x, IN, VALUES);
        add(x, LEAST, -1);
        add(x, SIZE, 1);
        add(x, MANY, 2);
        add(x, IN, VALUES);
        say(x, 16 + 7, 0, 0, 0, 128, 32 + 7, 255, 255, 255, 127);
        add(x, SIZE, 31);
        add(x, MANY, 1);
        add(x, IN, VALUES);
        say(x, 16 + 5, 0);
        add(x, IN, VALUES);
        due("read()", x.read(), 5);
        due("length(0, 0)", x.length(0, 0), 82);
        // The BITS 3, 17; 18; none of 19; 50, the highest of 20 to 50; all of 51 to 81.
        due("come", come(x, 8, 0, 2 + 4, 0, 0, 0, 4 + 248, 255, 255, 255, 3), 4);
        dueEvent("of 15 bits", x, 0, 0, 1 + 16384);
        dueEvent("of one bit", x, 1, 0, -1);
        dueEvent("of 31 bits, signed", x, 3, 0, -1073741824);
        dueEvent("of 31 bits", x, 4, 0, HIGHEST);
    }

    private static void slots() {
        ShapeReports x = fourSlots();
        due("none", come(x, 0, 0, 7, 255), 0);
        due("in range, but no such use", come(x, 5, 6, 5, 6), 0);
        due("last(2)", x.last(2), 0);
        due("7, 4, 9 twice", come(x, 4, 3, 2, 1), 3);
        due("last(0)", x.last(0), 3);
        due("last(3)", x.last(3), 3);
        dueEvent("4", x, 0, 4, 1);
        dueEvent("7", x, 0, 7, 1);
        dueEvent("9", x, 0, 9, 1);
        due("the same in other slots", come(x, 1, 1, 4, 2), 0);
        due("9 by its other place", come(x, 3, 0, 0, 0), 2);
        due("last(1)", x.last(1), 1);
        dueEvent("4 goes", x, 0, 4, 0);
        dueEvent("7 goes", x, 0, 7, 0);
        due("7, 4 for 9", come(x, 4, 4, 2, 2), 3);
        dueEvent("9 goes", x, 0, 9, 0);
        dueEvent("4 comes", x, 0, 4, 1);
        dueEvent("7 comes", x, 0, 7, 1);
        due("nothing", come(x, 0, 0, 0, 0), 2);
        due("last(0)", x.last(0), 0);
        slotsAmongValues();
        slotsOfSeveralItems();
        slotsWithMostUses();
        slotsOfWideNumbers();
    }

    private static void slotsAmongValues() {
        ShapeReports x = sized(4, 2);
        add(x, MOST, 15);
        add(x, IN, VALUES);
        add(x, UPTO, 3);
        add(x, IN, SLOTS);
        add(x, UPTO, 3);
        add(x, IN, SLOTS);
        add(x, IN, SLOTS);
        add(x, IN, VALUES);
        due("read()", x.read(), 10);
        due("come", come(x, 0x21, 0x31, 0x11, 0x00, 0x43), 7);
        dueEvent("value", x, 0, 0, 1);
        dueEvent("value", x, 1, 0, 2);
        dueEvent("slots of the one item", x, 2, 1, 1);
        dueEvent("slots of the one item", x, 2, 3, 1);
        dueEvent("slots of the other", x, 4, 1, 1);
        dueEvent("value", x, 8, 0, 3);
        dueEvent("value", x, 9, 0, 4);
        due("last(3)", x.last(3), 2);
        due("last(5)", x.last(5), 1);
        due("last(7), without uses", x.last(7), 0);
    }

    private static void slotsOfSeveralItems() {
        ShapeReports x = sized(4, 2);
        add(x, MOST, 15);
        add(x, USE, 50);
        add(x, USE, 40);
        add(x, IN, SLOTS);
        add(x, USE, 30);
        add(x, IN, SLOTS);
        add(x, USE, 20);
        add(x, USE, 60);
        add(x, USE, 10);
        add(x, IN, SLOTS);
        due("read()", x.read(), 6);
        due("come", come(x, 0x10, 0x10, 0x12), 5);
        dueEvent("the first item's", x, 0, 40, 1);
        dueEvent("the first item's", x, 0, 50, 1);
        dueEvent("the second item's", x, 2, 30, 1);
        dueEvent("the third item's", x, 4, 10, 1);
        dueEvent("the third item's", x, 4, 60, 1);
        due("come", come(x, 0x00, 0x11, 0x00), 5);
        dueEvent("the first item's", x, 0, 40, 0);
        dueEvent("the second item's", x, 2, 30, 0);
        dueEvent("the third item's", x, 4, 10, 0);
        dueEvent("the third item's", x, 4, 60, 0);
        dueEvent("the third item's", x, 4, 20, 1);
        due("last(1)", x.last(1), 1);
        due("last(3)", x.last(3), 0);
        due("last(5)", x.last(5), 1);
    }

    private static void slotsWithMostUses() {
        ShapeReports x = sized(5, 32);
        add(x, MOST, 31);
        add(x, UPTO, 31);
        add(x, IN, SLOTS);
        due("read()", x.read(), 32);
        int[] bytes = new int[20];
        for (int bit = 0; bit < 160; bit++) bytes[bit / 8] |= (31 - bit / 5 >> bit % 5 & 1) << bit % 8;
        due("all 32", come(x, bytes), 32);
        due("last(31)", x.last(31), 32);
        for (int use = 0; use < 32; use++) dueEvent("of 32", x, 0, use, 1);
        due("31 go", come(x, new int[20]), 31);
        dueEvent("the first to go", x, 0, 1, 0);
    }

    private static void slotsOfWideNumbers() {
        ShapeReports x = sized(31, 1);
        say(x, 16 + 7, 1, 0, 0, 128, 32 + 7, 255, 255, 255, 127);
        add(x, UPTO, 31);
        add(x, IN, SLOTS);
        due("read()", x.read(), 1);
        due("number less LEAST is above all ints", come(x, 255, 255, 255, 63), 0);
        x = sized(5, 2);
        add(x, LEAST, -16);
        add(x, MOST, 15);
        add(x, FIRST, 100);
        add(x, UPTO, 131);
        add(x, IN, SLOTS);
        due("read()", x.read(), 2);
        due("the first and the last use", come(x, 16 + 32 * 7, 1), 2);
        dueEvent("the first", x, 0, 100, 1);
        dueEvent("the last", x, 0, 131, 1);
        due("last(0)", x.last(0), 2);
        due("both the last", come(x, 15 + 32 * 7, 1), 1);
        dueEvent("the first goes", x, 0, 100, 0);
    }

    private static void events() {
        promise = 13;
        ShapeReports x = oneValue();
        due("event(0)", x.event(0), NONE);
        due("event(-1)", x.event(-1), OUTSIDE);
        due("event(3)", x.event(3), OUTSIDE);
        come(x, 9);
        come(x, 8);
        due("event(0)", x.event(0), 0);
        due("event(1)", x.event(1), 5);
        due("event(2)", x.event(2), 9);
        due("event(2) again", x.event(2), 9);
        due("event(-1)", x.event(-1), OUTSIDE);
        due("event(3)", x.event(3), OUTSIDE);
        due("event(lowest)", x.event(LOWEST), OUTSIDE);
    }

    private static void nexts() {
        promise = 14;
        ShapeReports x = oneValue();
        due("next()", x.next(), NONE);
        come(x, 9);
        come(x, 8);
        come(x, 7);
        due("next()", x.next(), 2);
        due("event(2)", x.event(2), 8);
        due("next()", x.next(), 1);
        due("event(2)", x.event(2), 7);
        due("next()", x.next(), 0);
        due("event(2)", x.event(2), NONE);
        due("next()", x.next(), NONE);
        due("count(2)", x.count(2), 0);
    }

    private static void lasts() {
        promise = 15;
        ShapeReports x = fourSlots();
        come(x, 1, 4, 0, 0);
        for (int f = 0; f < 4; f++) due("last(" + f + ") of a slot", x.last(f), 2);
        due("last(-1)", x.last(-1), UNKNOWN);
        due("last(4)", x.last(4), UNKNOWN);
        due("last(lowest)", x.last(LOWEST), UNKNOWN);
        x = sized(8, 1);
        add(x, MOST, 50);
        add(x, IN, VALUES);
        add(x, OUT, VALUES);
        add(x, USE, 1);
        add(x, BOTH, SLOTS);
        due("read()", x.read(), 3);
        come(x, 50);
        x.want(1, 20);
        due("last(0)", x.last(0), 50);
        due("last(1), of WAY 1", x.last(1), 0);
        due("last(2), a slot of WAY 2", x.last(2), 0);
    }

    private static void wants() {
        promise = 16;
        ShapeReports x = sized(4, 1);
        add(x, LEAST, -3);
        add(x, MOST, 100);
        add(x, IN, VALUES);
        add(x, OUT, VALUES);
        add(x, BOTH, STEPS);
        add(x, USE, 1);
        add(x, OUT, SLOTS);
        due("read()", x.read(), 4);
        due("want(-1, 0)", x.want(-1, 0), UNKNOWN);
        due("want(4, 101)", x.want(4, 101), UNKNOWN);
        due("want(0, 0)", x.want(0, 0), STATE);
        due("want(0, 101)", x.want(0, 101), STATE);
        due("want(3, 0)", x.want(3, 0), STATE);
        due("want(1, -4)", x.want(1, -4), OUTSIDE);
        due("want(1, 101)", x.want(1, 101), OUTSIDE);
        due("want(1, highest)", x.want(1, HIGHEST), OUTSIDE);
        due("want(1, -3)", x.want(1, -3), 0);
        due("want(1, 100)", x.want(1, 100), -3);
        due("want(1, 101)", x.want(1, 101), OUTSIDE);
        due("want(1, 7)", x.want(1, 7), 100);
        due("want(2, 1)", x.want(2, 1), 0);
        due("want(2, 2)", x.want(2, 2), 1);
    }

    private static void letters() {
        promise = 17;
        ShapeReports x = sized(3, 1);
        add(x, OUT, NOTHING);
        add(x, LEAST, -100);
        add(x, MOST, 100);
        add(x, SIZE, 7);
        add(x, MANY, 2);
        add(x, OUT, VALUES);
        add(x, OUT, SLOTS);
        add(x, OUT, VALUES);
        due("read()", x.read(), 6);
        due("made(1, 0, -1)", x.made(1, 0, -1), 6);
        for (int k = 0; k < 6; k++) due("made(1, 0, " + k + ")", x.made(1, 0, k), 0);
        x.want(0, -1);
        x.want(1, 1);
        x.want(5, -64);
        // Bits 3 to 9 are 1, bit 10 is 1, bits 38 to 44 are 0000001.
        int[] bytes = {248, 7, 0, 0, 0, 16};
        for (int k = 0; k < 6; k++) due("made(1, 0, " + k + ")", x.made(1, 0, k), bytes[k]);
        x.want(0, 100);
        due("made(1, 0, 0)", x.made(1, 0, 0), 4 * 8);
        due("made(1, 0, 1)", x.made(1, 0, 1), 3 + 4);
        x.want(5, 100);
        due("the lowest bits alone", x.made(1, 0, 4), 0);
        due("the lowest bits alone", x.made(1, 0, 5), 16 + 8 + 1);
        due("made(1, 0, 6)", x.made(1, 0, 6), NONE);
        due("made(1, 0, -2)", x.made(1, 0, -2), NONE);
        due("made(1, 0, highest)", x.made(1, 0, HIGHEST), NONE);
        due("made(2, 0, -1)", x.made(2, 0, -1), NONE);
        due("made(2, 0, 0)", x.made(2, 0, 0), NONE);
        due("made(0, 0, -1)", x.made(0, 0, -1), OUTSIDE);
        due("made(3, 0, -1)", x.made(3, 0, -1), OUTSIDE);
        due("made(1, -1, -1)", x.made(1, -1, -1), OUTSIDE);
        due("made(1, 16, -2)", x.made(1, 16, -2), OUTSIDE);
        lettersWithIds();
    }

    private static void lettersWithIds() {
        ShapeReports x = sized(8, 1);
        add(x, OUT, NOTHING);
        add(x, MOST, 31);
        add(x, ID, 6);
        add(x, OUT, VALUES);
        add(x, BOTH, VALUES);
        add(x, ID, 7);
        add(x, OUT, VALUES);
        due("read()", x.read(), 3);
        x.want(0, 30);
        x.want(1, 31);
        x.want(2, 29);
        int[][] told = {{1, 6, 30}, {2, 6, 31}, {1, 7, 29}, {1, 0, 0}};
        for (int[] t : told) {
            due("made(.., -1)", x.made(t[0], t[1], -1), 2);
            due("made(.., 0)", x.made(t[0], t[1], 0), t[1]);
            due("made(.., 1)", x.made(t[0], t[1], 1), t[2]);
            due("made(.., 2)", x.made(t[0], t[1], 2), NONE);
        }
        due("made(2, 7, 0)", x.made(2, 7, 0), NONE);
        due("made(2, 15, -1)", x.made(2, 15, -1), NONE);
        due("made(2, 0, -1)", x.made(2, 0, -1), NONE);
        x = sized(8, 1);
        add(x, ID, 6);
        add(x, OUT, NOTHING);
        due("read()", x.read(), 0);
        due("no field has an ID", x.made(1, 6, -1), 1);
        due("no field has an ID", x.made(1, 6, 0), 0);
    }

    private static void counts() {
        promise = 18;
        ShapeReports x = fourSlots();
        add(x, GROUP, 0);
        add(x, END, 0);
        x.read();
        come(x, 1, 2, 3, 4);
        come(x, 0, 0, 0, 0);
        come(x, 1);
        x.next();
        x.put(1);
        x.put(1);
        x.image(1);
        int[] told = {4, 1, 5, 19, 2, 2, 0, 2};
        for (int what = 0; what <= 7; what++) due("count(" + what + ")", x.count(what), told[what]);
        x.say(5);
        due("read()", x.read(), FAULT);
        due("count(6)", x.count(6), 1);
        x.wipe();
        x.fault(0);
        due("count(6), behind another call", x.count(6), 1);
        due("read()", x.read(), 0);
        due("count(6)", x.count(6), 0);
        due("count(5)", x.count(5), 2);
        x.image(0);
        due("count(7)", x.count(7), 3);
        due("count(-1)", x.count(-1), OUTSIDE);
        due("count(8)", x.count(8), OUTSIDE);
        due("count(lowest)", x.count(LOWEST), OUTSIDE);
    }

    private static void images() {
        promise = 19;
        ShapeReports x = oneValue();
        due("image(-1)", x.image(-1), OUTSIDE);
        due("image(2)", x.image(2), OUTSIDE);
        due("count(7)", x.count(7), 0);
        due("image(0)", x.image(0), 1);
        due("count(7)", x.count(7), 1);
        come(x, 5);
        due("image(1)", x.image(1), 1);
        due("count(7)", x.count(7), 3);
        come(x, 6);
        due("restore(0)", x.restore(0), 1);
        due("last(0)", x.last(0), 0);
        come(x, 7);
        due("image(0) in its place", x.image(0), 1);
        come(x, 8);
        due("restore(1)", x.restore(1), 1);
        due("last(0)", x.last(0), 5);
        due("restore(0)", x.restore(0), 1);
        due("last(0)", x.last(0), 7);
    }

    private static void restores() {
        promise = 20;
        ShapeReports x = fourSlots();
        due("restore(-1)", x.restore(-1), OUTSIDE);
        due("restore(2)", x.restore(2), OUTSIDE);
        due("restore(0)", x.restore(0), STATE);
        add(x, OUT, VALUES);
        add(x, GROUP, 3);
        add(x, END, 0);
        x.read();
        come(x, 1, 2, 0, 0);
        x.want(4, 6);
        x.put(4);
        say(x, 5);
        due("read()", x.read(), FAULT);
        x.image(1);
        due("restore(0)", x.restore(0), STATE);
        for (int again = 0; again < 2; again++) {
            x.wipe();
            x.item(2, 0, 100);
            x.read();
            x.image(0);
            due("count(7)", x.count(7), 3);
            due("restore(1)", x.restore(1), 1);
            int[] told = {8, 1, 2, 23, 1, 1, 1, 3};
            for (int what = 0; what <= 7; what++) due("count(" + what + ")", x.count(what), told[what]);
            dueWritten(x, 0, "least 1");
            due("length(0, 0)", x.length(0, 0), 32);
            due("length(1, 0)", x.length(1, 0), 32);
            due("group(0, 0)", x.group(0, 0), 3);
            due("last(0)", x.last(0), 2);
            due("want(4, 5)", x.want(4, 5), 6);
            due("come, with the byte that was put before the image", come(x, 0, 0, 2), 2);
            dueEvent("4, from before the image", x, 0, 4, 1);
            dueEvent("9, from before the image", x, 0, 9, 1);
            dueEvent("9 goes", x, 0, 9, 0);
            dueEvent("7 comes", x, 0, 7, 1);
            due("last(3)", x.last(3), 2);
        }
        due("restore(0)", x.restore(0), 1);
        due("count(0)", x.count(0), 0);
        due("count(3)", x.count(3), 2);
        due("count(6)", x.count(6), 0);
    }

    public static void main(String[] args) {
        newObject();
        saying();
        wiping();
        items();
        reading();
        faultsOfBytes();
        faultsOfNumbers();
        faultsOfUses();
        faultsOfGroups();
        faultsOfFields();
        writing();
        fields();
        groups();
        lengths();
        putting();
        lettersRefused();
        lettersOfFewBits();
        lettersWhenFull();
        mostEvents();
        values();
        slots();
        events();
        nexts();
        lasts();
        wants();
        letters();
        counts();
        images();
        restores();
        System.out.println(wrong == 0 ? "all promises hold" : wrong + " answers are not as due");
        if (wrong != 0) System.exit(1);
    }
}
