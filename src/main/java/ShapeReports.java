/**
 * A device that tells its own shape: a program of items is read into fields and groups,
 * letters that come are cut into events, letters to the device are made of values.
 * The words in capitals (ITEM, FIELD, LETTER ...) are those of the document.
 */
public final class ShapeReports {
    public static final int UNKNOWN = -1, OUTSIDE = -2, STATE = -3, FULL = -4, NO = -5, NONE = -6, FAULT = -7;

    private static final int MAX_BYTE = 255;
    private static final int MAX_PROGRAM = 96;
    private static final int MAX_LETTER = 33;
    private static final int MAX_FIELDS = 48;
    private static final int MAX_GROUPS = 12;
    private static final int MAX_STACK = 4;
    private static final int MAX_USES = 32;
    private static final int MAX_BITS = 256;
    private static final int WAYS = 3;
    private static final int IDS = 16;
    private static final int EVENTS_ARE_FULL = 100;

    private final Device device = new Device();
    private final Device firstImage = new Device();
    private final Device secondImage = new Device();
    private final Reader reader = new Reader();
    private final Item shown = new Item();
    private int kept;

    public ShapeReports() {
        kept = 0;
    }

    // ---- 1 the program

    public int say(int b) {
        if (!isWithin(b, 0, MAX_BYTE)) {
            return OUTSIDE;
        }
        if (device.program.size() >= MAX_PROGRAM) {
            return FULL;
        }
        device.program.add(b);
        return device.program.size();
    }

    public int wipe() {
        int had = device.program.size();
        device.program.clear();
        return had;
    }

    public int item(int sort, int tag, int n) {
        if (!isWithin(sort, 0, 2) || !isWithin(tag, 0, 15) || !isWithin(n, -32768, 32767)) {
            return OUTSIDE;
        }
        int more = n == 0 ? 0 : isWithin(n, -128, 127) ? 1 : 2;
        if (device.program.size() + 1 + more > MAX_PROGRAM) {
            return FULL;
        }
        device.program.add(tag * 16 + sort * 4 + more);
        if (more >= 1) {
            device.program.add(n & MAX_BYTE);
        }
        if (more == 2) {
            device.program.add((n >> 8) & MAX_BYTE);
        }
        return device.program.size();
    }

    public int read() {
        reader.goThrough(device.program);
        device.toldFault = reader.faultNumber;
        if (reader.faultNumber != 0) {
            return FAULT;
        }
        device.become(reader.shape);
        return device.shape.fields.rows();
    }

    public int fault(int what) {
        if (!isWithin(what, 0, 2)) {
            return OUTSIDE;
        }
        if (what == 2) {
            return wholeItems();
        }
        reader.goThrough(device.program);
        return what == 0 ? reader.faultNumber : reader.faultPlace;
    }

    public int written(int i, int k) {
        if (!findItem(i)) {
            return NONE;
        }
        int signs = Words.signs(shown);
        if (k == -1) {
            return signs;
        }
        return isWithin(k, 0, signs - 1) ? Words.signAt(shown, k) : NONE;
    }

    // ---- 2 fields

    public int field(int f, int what) {
        if (!device.shape.fields.has(f)) {
            return UNKNOWN;
        }
        if (!isWithin(what, 0, Shape.TOLD_COLUMNS - 1)) {
            return OUTSIDE;
        }
        return device.shape.fields.at(f, what);
    }

    public int group(int g, int what) {
        if (!isWithin(what, 0, 3)) {
            return OUTSIDE;
        }
        if (!device.shape.groups.has(g)) {
            return NONE;
        }
        return what == 3 ? device.shape.fieldsOfGroup(g) : device.shape.groups.at(g, what);
    }

    public int length(int way, int id) {
        if (!isWithin(way, 0, WAYS - 1) || !isWithin(id, 0, IDS - 1)) {
            return OUTSIDE;
        }
        return device.shape.bitsOf(way, id);
    }

    // ---- 3 letters that come, events

    public int put(int b) {
        if (!isWithin(b, 0, MAX_BYTE)) {
            return OUTSIDE;
        }
        if (device.letter.size() >= MAX_LETTER) {
            return FULL;
        }
        device.letter.add(b);
        return device.letter.size();
    }

    public int come() {
        if (!device.letterFits()) {
            device.letter.clear();
            return NO;
        }
        int before = device.events.rows();
        if (before >= EVENTS_ARE_FULL) {
            return FULL;
        }
        device.cutLetter();
        device.letter.clear();
        device.came++;
        return device.events.rows() - before;
    }

    public int event(int what) {
        if (!isWithin(what, 0, Device.EVENT_COLUMNS - 1)) {
            return OUTSIDE;
        }
        return device.events.has(0) ? device.events.at(0, what) : NONE;
    }

    public int next() {
        if (!device.events.has(0)) {
            return NONE;
        }
        device.events.dropFirst();
        return device.events.rows();
    }

    public int last(int f) {
        Table fields = device.shape.fields;
        if (!fields.has(f)) {
            return UNKNOWN;
        }
        if (fields.at(f, Shape.SLOT) == 1) {
            return Integer.bitCount(fields.at(fields.at(f, Shape.FIRST_OF_ITEM), Shape.PRESSED));
        }
        return fields.at(f, Shape.LAST);
    }

    // ---- 4 letters to the device

    public int want(int f, int n) {
        Table fields = device.shape.fields;
        if (!fields.has(f)) {
            return UNKNOWN;
        }
        if (fields.at(f, Shape.SLOT) == 1 || fields.at(f, Shape.WAY) == 0) {
            return STATE;
        }
        if (!device.shape.isInRange(f, n)) {
            return OUTSIDE;
        }
        int was = fields.at(f, Shape.WANTED);
        fields.set(f, Shape.WANTED, n);
        return was;
    }

    public int made(int way, int id, int k) {
        if (!isWithin(way, 1, WAYS - 1) || !isWithin(id, 0, IDS - 1)) {
            return OUTSIDE;
        }
        int bits = device.shape.bitsOf(way, id);
        if (bits == 0) {
            return NONE;
        }
        int head = device.shape.headBytes();
        int bytes = head + bytesFor(bits);
        if (k == -1) {
            return bytes;
        }
        if (!isWithin(k, 0, bytes - 1)) {
            return NONE;
        }
        return k < head ? id : device.shape.wantedByte(way, id, k - head);
    }

    public int count(int what) {
        switch (what) {
            case 0:
                return device.shape.fields.rows();
            case 1:
                return device.shape.groups.rows();
            case 2:
                return device.events.rows();
            case 3:
                return device.program.size();
            case 4:
                return device.letter.size();
            case 5:
                return device.came;
            case 6:
                return device.toldFault;
            case 7:
                return kept;
            default:
                return OUTSIDE;
        }
    }

    // ---- 5 images

    public int image(int k) {
        if (!isWithin(k, 0, 1)) {
            return OUTSIDE;
        }
        imageOf(k).copyFrom(device);
        kept = kept | (k + 1);
        return 1;
    }

    public int restore(int k) {
        if (!isWithin(k, 0, 1)) {
            return OUTSIDE;
        }
        if ((kept & (k + 1)) == 0) {
            return STATE;
        }
        device.copyFrom(imageOf(k));
        return 1;
    }

    private Device imageOf(int k) {
        return k == 0 ? firstImage : secondImage;
    }

    private int wholeItems() {
        int items = 0;
        int place = 0;
        while (items < MAX_PROGRAM && shown.decode(device.program, place)) {
            items++;
            place = shown.placeBehind();
        }
        return items;
    }

    /** Leaves the i-th whole ITEM in 'shown', if there is one. */
    private boolean findItem(int i) {
        if (!isWithin(i, 0, MAX_PROGRAM - 1)) {
            return false;
        }
        boolean whole = shown.decode(device.program, 0);
        for (int passed = 0; passed < i && whole; passed++) {
            whole = shown.decode(device.program, shown.placeBehind());
        }
        return whole;
    }

    private static boolean isWithin(int n, int least, int most) {
        return n >= least && n <= most;
    }

    private static int bytesFor(int bits) {
        return (bits + 7) / 8;
    }

    /** The lowest so many bits of a number, in two's complement. */
    private static int signed(int number, int bits) {
        if (!isWithin(bits, 1, 31)) {
            return number;
        }
        int shift = 32 - bits;
        return (number << shift) >> shift;
    }

    /** A row of numbers that grows up to a limit; a place outside of it holds 0. */
    private static final class Row {
        private final int[] cells;
        private int used;

        Row(int limit) {
            cells = new int[Math.max(limit, 0)];
            used = 0;
        }

        int size() {
            return used;
        }

        int at(int i) {
            return i >= 0 && i < used && i < cells.length ? cells[i] : 0;
        }

        void add(int n) {
            if (used < cells.length) {
                cells[used] = n;
                used++;
            }
        }

        void clear() {
            used = 0;
        }

        void copyFrom(Row other) {
            int copied = Math.min(other.used, Math.min(cells.length, other.cells.length));
            System.arraycopy(other.cells, 0, cells, 0, copied);
            used = copied;
        }
    }

    /** Rows of so many columns, up to a limit of rows; a cell outside of them holds 0. */
    private static final class Table {
        private final int limit;
        private final int columns;
        private final int[] cells;
        private int used;

        Table(int limitOfRows, int columnsOfRow) {
            limit = Math.max(limitOfRows, 0);
            columns = Math.max(columnsOfRow, 0);
            cells = new int[Math.max(limit * columns, 0)];
            used = 0;
        }

        int rows() {
            return used;
        }

        boolean has(int row) {
            return row >= 0 && row < used;
        }

        int at(int row, int column) {
            if (row < 0 || row >= used || column < 0 || column >= columns) {
                return 0;
            }
            int cell = row * columns + column;
            return cell < cells.length ? cells[cell] : 0;
        }

        void set(int row, int column, int n) {
            if (row < 0 || row >= used || column < 0 || column >= columns) {
                return;
            }
            int cell = row * columns + column;
            if (cell < cells.length) {
                cells[cell] = n;
            }
        }

        /** One row more, all 0: its number; -1: there is no room for it. */
        int addRow() {
            if (used >= limit) {
                return -1;
            }
            used++;
            for (int column = 0; column < columns; column++) {
                set(used - 1, column, 0);
            }
            return used - 1;
        }

        void dropFirst() {
            int moved = (used - 1) * columns;
            if (moved >= 0 && columns + moved <= cells.length) {
                System.arraycopy(cells, columns, cells, 0, moved);
                used--;
            }
        }

        void dropLast() {
            if (used > 0) {
                used--;
            }
        }

        void clear() {
            used = 0;
        }

        /** The other one has the same limits. */
        void copyFrom(Table other) {
            int copied = other.used * columns;
            if (copied <= cells.length && copied <= other.cells.length) {
                System.arraycopy(other.cells, 0, cells, 0, copied);
                used = other.used;
            }
        }
    }

    /** One ITEM of a program, taken apart. */
    private static final class Item {
        private int place;
        private int more;
        int sort;
        int tag;
        int n;
        int z;

        /** Whether there is an ITEM at this place that has all its BYTES. */
        boolean decode(Row program, int at) {
            int b = program.at(at);
            place = at;
            more = (b & 3) == 3 ? 4 : b & 3;
            sort = (b >> 2) & 3;
            tag = b >> 4;
            int told = 0;
            for (int i = 0; i < more; i++) {
                told = told | (program.at(at + 1 + i) << (8 * i));
            }
            n = told & 0x7fffffff;
            z = signed(told, 8 * more);
            return placeBehind() <= program.size();
        }

        int placeBehind() {
            return place + 1 + more;
        }

        boolean hasNumber() {
            return more > 0;
        }
    }

    /** ITEMS written out. */
    private static final class Words {
        private static final int MOST_FIGURES = 10;

        static int signs(Item item) {
            int ofWord = word(item).length();
            if (!item.hasNumber()) {
                return ofWord;
            }
            long number = numberOf(item);
            return ofWord + 1 + (number < 0 ? 1 : 0) + figures(Math.abs(number));
        }

        /** Sign k, of 0 to signs(item) less 1. */
        static int signAt(Item item, int k) {
            String word = word(item);
            if (k >= 0 && k < word.length()) {
                return word.charAt(k);
            }
            if (k == word.length()) {
                return ' ';
            }
            long number = numberOf(item);
            if (number < 0 && k == word.length() + 1) {
                return '-';
            }
            return figure(Math.abs(number), signs(item) - 1 - k);
        }

        // A long, since the least int has no int of the other sign.
        private static long numberOf(Item item) {
            boolean isSigned = item.sort == 1 && (item.tag == 1 || item.tag == 2);
            return isSigned ? item.z : item.n;
        }

        private static int figures(long number) {
            int figures = 1;
            long rest = number / 10;
            while (rest > 0 && figures < MOST_FIGURES) {
                figures++;
                rest = rest / 10;
            }
            return figures;
        }

        private static int figure(long number, int fromBehind) {
            long rest = number;
            for (int i = 0; i < fromBehind && i < MOST_FIGURES; i++) {
                rest = rest / 10;
            }
            return '0' + (int) (rest % 10);
        }

        private static String word(Item item) {
            switch (item.sort) {
                case 0:
                    return shapeWord(item.tag);
                case 1:
                    return numberWord(item.tag);
                case 2:
                    return useWord(item.tag);
                default:
                    return "what";
            }
        }

        private static String shapeWord(int tag) {
            switch (tag) {
                case 8:
                    return "in";
                case 9:
                    return "out";
                case 10:
                    return "group";
                case 11:
                    return "both";
                case 12:
                    return "end";
                default:
                    return "what";
            }
        }

        private static String numberWord(int tag) {
            switch (tag) {
                case 0:
                    return "page";
                case 1:
                    return "least";
                case 2:
                    return "most";
                case 7:
                    return "size";
                case 8:
                    return "id";
                case 9:
                    return "many";
                case 10:
                    return "push";
                case 11:
                    return "pop";
                default:
                    return "what";
            }
        }

        private static String useWord(int tag) {
            switch (tag) {
                case 0:
                    return "use";
                case 1:
                    return "first";
                case 2:
                    return "upto";
                default:
                    return "what";
            }
        }
    }

    /** The FIELDS, the GROUPS and the lengths of the LETTERS that a program makes. */
    private static final class Shape {
        // The first twelve columns are numbered as field(f, what) asks for them.
        static final int WAY = 0, ID = 1, FIRST_BIT = 2, SIZE = 3, LEAST = 4, MOST = 5;
        static final int SLOT = 6, STEP = 7, PAGE = 8, USES = 9, FIRST_USE = 10, GROUP = 11;
        static final int TOLD_COLUMNS = 12;
        static final int FIRST_OF_ITEM = 12, USES_FROM = 13, LAST = 14, WANTED = 15;
        // A bit for each place of a USE; held by the first FIELD of the ITEM for all its SLOTS.
        static final int PRESSED = 16;
        private static final int FIELD_COLUMNS = 17;

        // Numbered as group(g, what) asks for them.
        static final int KIND = 0, USE = 1, OUTER = 2;
        private static final int GROUP_COLUMNS = 3;

        // 32 USES and the ITEM of their SLOTS take three BYTES at least, of 96.
        private static final int MAX_SLOT_USES = 1024;

        final Table fields = new Table(MAX_FIELDS, FIELD_COLUMNS);
        final Table groups = new Table(MAX_GROUPS, GROUP_COLUMNS);
        final Row slotUses = new Row(MAX_SLOT_USES);
        private final Table bits = new Table(WAYS, IDS);

        void clear() {
            fields.clear();
            groups.clear();
            slotUses.clear();
            bits.clear();
            for (int way = 0; way < WAYS; way++) {
                bits.addRow();
            }
        }

        void copyFrom(Shape other) {
            fields.copyFrom(other.fields);
            groups.copyFrom(other.groups);
            slotUses.copyFrom(other.slotUses);
            bits.copyFrom(other.bits);
        }

        /** How many BITS the LETTER has; 0, if there is no such WAY or ID. */
        int bitsOf(int way, int id) {
            return bits.at(way, id);
        }

        void lengthen(int way, int id, int by) {
            bits.set(way, id, bits.at(way, id) + by);
        }

        boolean hasIdZero() {
            for (int f = 0; f < fields.rows(); f++) {
                if (fields.at(f, ID) == 0) {
                    return true;
                }
            }
            return false;
        }

        boolean hasOtherIds() {
            for (int f = 0; f < fields.rows(); f++) {
                if (fields.at(f, ID) != 0) {
                    return true;
                }
            }
            return false;
        }

        /** How many BYTES of a LETTER stand ahead of its BITS. */
        int headBytes() {
            return hasOtherIds() ? 1 : 0;
        }

        boolean isOfLetter(int f, int way, int id) {
            return fields.at(f, WAY) == way && fields.at(f, ID) == id;
        }

        boolean isInRange(int f, int number) {
            return isWithin(number, fields.at(f, LEAST), fields.at(f, MOST));
        }

        int fieldsOfGroup(int g) {
            int found = 0;
            for (int f = 0; f < fields.rows(); f++) {
                if (isInGroup(f, g)) {
                    found++;
                }
            }
            return found;
        }

        private boolean isInGroup(int f, int g) {
            int around = fields.at(f, GROUP);
            for (int depth = 0; depth < MAX_GROUPS && around != NONE; depth++) {
                if (around == g) {
                    return true;
                }
                around = groups.at(around, OUTER);
            }
            return false;
        }

        void addSlotUses(Row uses) {
            for (int i = 0; i < uses.size(); i++) {
                slotUses.add(uses.at(i));
            }
        }

        int slotUse(int f, int place) {
            return slotUses.at(fields.at(f, USES_FROM) + place);
        }

        /** The first place of the USE that stands at this place, so that a USE is one bit alone. */
        int firstPlaceOfUse(int f, int place) {
            int use = slotUse(f, place);
            for (int p = 0; p < place; p++) {
                if (slotUse(f, p) == use) {
                    return p;
                }
            }
            return place;
        }

        /** Of the places that are bits of a mask, the one with the least USE; -1: there is none. */
        int placeOfLeastUse(int f, int mask) {
            int best = -1;
            for (int p = 0; p < MAX_USES; p++) {
                boolean isIn = ((mask >>> p) & 1) == 1;
                if (isIn && (best < 0 || slotUse(f, p) < slotUse(f, best))) {
                    best = p;
                }
            }
            return best;
        }

        /** BYTE k of the BITS of a LETTER, made of what its VALUES are to be. */
        int wantedByte(int way, int id, int k) {
            int made = 0;
            for (int f = 0; f < fields.rows(); f++) {
                if (isOfLetter(f, way, id) && fields.at(f, SLOT) == 0) {
                    made = made | wantedPart(f, k * 8);
                }
            }
            return made;
        }

        private int wantedPart(int f, int firstBitOfByte) {
            int part = 0;
            for (int i = 0; i < 8; i++) {
                int bit = firstBitOfByte + i - fields.at(f, FIRST_BIT);
                if (isWithin(bit, 0, fields.at(f, SIZE) - 1)) {
                    part = part | (((fields.at(f, WANTED) >> bit) & 1) << i);
                }
            }
            return part;
        }
    }

    /** Goes through a program: makes its shape, or tells its FAULT. */
    private static final class Reader {
        private static final int NUMBERS = 6;
        private static final int MAX_SIZE = 31;
        private static final int MAX_MANY = 40;

        final Shape shape = new Shape();
        int faultNumber;
        int faultPlace;
        private final Item item = new Item();
        private final Table stack = new Table(MAX_STACK, NUMBERS);
        private int page;
        private int least;
        private int most;
        private int size;
        private int id;
        private int many;
        private final Row uses = new Row(MAX_USES);
        private int firstOfUses;
        private int openGroup;

        void goThrough(Row program) {
            begin();
            int place = 0;
            for (int i = 0; i < MAX_PROGRAM && place < program.size(); i++) {
                boolean whole = item.decode(program, place);
                int found = whole ? faultOfItem() : 1;
                if (found != 0) {
                    tellFault(found, place);
                    return;
                }
                obeyItem();
                place = item.placeBehind();
            }
            tellFault(faultOfWhole(), program.size());
        }

        private void begin() {
            shape.clear();
            stack.clear();
            page = 0;
            least = 0;
            most = 0;
            size = 0;
            id = 0;
            many = 0;
            openGroup = NONE;
            forgetUses();
        }

        private void forgetUses() {
            uses.clear();
            firstOfUses = 0;
        }

        private void tellFault(int found, int place) {
            faultNumber = found;
            faultPlace = found == 0 ? NONE : place;
        }

        private int faultOfItem() {
            switch (item.sort) {
                case 0:
                    return faultOfShapeItem();
                case 1:
                    return faultOfNumberItem();
                case 2:
                    return uses.size() + moreUses() > MAX_USES ? 8 : 0;
                default:
                    return 2;
            }
        }

        private int faultOfNumberItem() {
            switch (item.tag) {
                case 7:
                    return item.n > MAX_SIZE ? 3 : 0;
                case 8:
                    return item.n == 0 || item.n >= IDS ? 4 : 0;
                case 9:
                    return item.n > MAX_MANY ? 5 : 0;
                case 10:
                    return stack.rows() >= MAX_STACK ? 6 : 0;
                case 11:
                    return stack.rows() == 0 ? 7 : 0;
                default:
                    return 0;
            }
        }

        private int faultOfShapeItem() {
            switch (item.tag) {
                case 8:
                case 9:
                case 11:
                    return faultOfFields();
                case 10:
                    return shape.groups.rows() >= MAX_GROUPS ? 9 : 0;
                case 12:
                    return openGroup == NONE ? 10 : 0;
                default:
                    return 2;
            }
        }

        private int faultOfFields() {
            if (size == 0 || many == 0) {
                return 11;
            }
            if (least > most && makesFields()) {
                return 12;
            }
            if (shape.bitsOf(wayOfItem(), id) + many * size > MAX_BITS) {
                return 13;
            }
            return makesFields() && shape.fields.rows() + many > MAX_FIELDS ? 14 : 0;
        }

        private int faultOfWhole() {
            if (openGroup != NONE) {
                return 15;
            }
            return shape.hasIdZero() && shape.hasOtherIds() ? 16 : 0;
        }

        // A long, since FIRST and N may lie further apart than an int can tell.
        private long moreUses() {
            if (item.tag == 0) {
                return 1;
            }
            return item.tag == 2 ? Math.max((long) item.n - firstOfUses + 1, 0L) : 0;
        }

        private void obeyItem() {
            switch (item.sort) {
                case 0:
                    obeyShapeItem();
                    forgetUses();
                    break;
                case 1:
                    obeyNumberItem();
                    break;
                default:
                    obeyUseItem();
                    break;
            }
        }

        private void obeyNumberItem() {
            switch (item.tag) {
                case 0:
                    page = item.n;
                    break;
                case 1:
                    least = item.z;
                    break;
                case 2:
                    most = item.z;
                    break;
                case 7:
                    size = item.n;
                    break;
                case 8:
                    id = item.n;
                    break;
                case 9:
                    many = item.n;
                    break;
                case 10:
                    pushNumbers();
                    break;
                case 11:
                    popNumbers();
                    break;
                default:
                    break;
            }
        }

        private void pushNumbers() {
            int top = stack.addRow();
            stack.set(top, 0, page);
            stack.set(top, 1, least);
            stack.set(top, 2, most);
            stack.set(top, 3, size);
            stack.set(top, 4, id);
            stack.set(top, 5, many);
        }

        private void popNumbers() {
            int top = stack.rows() - 1;
            page = stack.at(top, 0);
            least = stack.at(top, 1);
            most = stack.at(top, 2);
            size = stack.at(top, 3);
            id = stack.at(top, 4);
            many = stack.at(top, 5);
            stack.dropLast();
        }

        private void obeyUseItem() {
            if (item.tag == 1) {
                firstOfUses = item.n;
                return;
            }
            int from = item.tag == 0 ? item.n : firstOfUses;
            long more = moreUses();
            for (int i = 0; i < MAX_USES && i < more; i++) {
                uses.add(from + i);
            }
        }

        private void obeyShapeItem() {
            switch (item.tag) {
                case 10:
                    beginGroup();
                    break;
                case 12:
                    openGroup = shape.groups.at(openGroup, Shape.OUTER);
                    break;
                default:
                    if (makesFields()) {
                        addFields();
                    }
                    shape.lengthen(wayOfItem(), id, many * size);
                    break;
            }
        }

        private void beginGroup() {
            int g = shape.groups.addRow();
            shape.groups.set(g, Shape.KIND, item.n);
            shape.groups.set(g, Shape.USE, uses.at(0));
            shape.groups.set(g, Shape.OUTER, openGroup);
            openGroup = g;
        }

        private int wayOfItem() {
            return item.tag == 8 ? 0 : item.tag == 9 ? 1 : 2;
        }

        private boolean makesFields() {
            return item.n % 2 == 0;
        }

        private boolean makesValues() {
            return item.n / 2 % 2 == 1;
        }

        private void addFields() {
            int firstField = shape.fields.rows();
            int firstBit = shape.bitsOf(wayOfItem(), id);
            for (int k = 0; k < many && k < MAX_FIELDS; k++) {
                int f = shape.fields.addRow();
                shape.fields.set(f, Shape.FIRST_OF_ITEM, firstField);
                shape.fields.set(f, Shape.FIRST_BIT, firstBit + k * size);
                setCommon(f);
                if (makesValues()) {
                    setValue(f, k);
                } else {
                    setSlot(f);
                }
            }
            if (!makesValues()) {
                shape.addSlotUses(uses);
            }
        }

        private void setCommon(int f) {
            shape.fields.set(f, Shape.WAY, wayOfItem());
            shape.fields.set(f, Shape.ID, id);
            shape.fields.set(f, Shape.SIZE, size);
            shape.fields.set(f, Shape.LEAST, least);
            shape.fields.set(f, Shape.MOST, most);
            shape.fields.set(f, Shape.PAGE, page);
            shape.fields.set(f, Shape.GROUP, openGroup);
        }

        private void setValue(int f, int k) {
            shape.fields.set(f, Shape.STEP, item.n / 4 % 2);
            shape.fields.set(f, Shape.USES, 1);
            shape.fields.set(f, Shape.FIRST_USE, uses.at(Math.min(k, uses.size() - 1)));
        }

        /** Its USES are added once, behind the last SLOT of the ITEM. */
        private void setSlot(int f) {
            shape.fields.set(f, Shape.SLOT, 1);
            shape.fields.set(f, Shape.USES, uses.size());
            shape.fields.set(f, Shape.FIRST_USE, uses.at(0));
            shape.fields.set(f, Shape.USES_FROM, shape.slotUses.size());
        }
    }

    /** All that an IMAGE keeps. */
    private static final class Device {
        // Numbered as event(what) asks for them.
        private static final int OF_FIELD = 0, OF_USE = 1, NUMBER = 2;
        static final int EVENT_COLUMNS = 3;
        // A letter comes with 99 EVENTS at most, and tells two a FIELD at most.
        private static final int MAX_EVENTS = EVENTS_ARE_FULL + 2 * MAX_FIELDS;

        final Row program = new Row(MAX_PROGRAM);
        final Row letter = new Row(MAX_LETTER);
        final Shape shape = new Shape();
        final Table events = new Table(MAX_EVENTS, EVENT_COLUMNS);
        int came;
        int toldFault;

        void copyFrom(Device other) {
            program.copyFrom(other.program);
            letter.copyFrom(other.letter);
            shape.copyFrom(other.shape);
            events.copyFrom(other.events);
            came = other.came;
            toldFault = other.toldFault;
        }

        /** A shape that was just read has no LAST NUMBERS, nothing PRESSED, nothing wanted. */
        void become(Shape justRead) {
            shape.copyFrom(justRead);
            events.clear();
            letter.clear();
        }

        private int idOfLetter() {
            return shape.headBytes() == 1 ? letter.at(0) : 0;
        }

        boolean letterFits() {
            int bits = shape.bitsOf(0, idOfLetter());
            return letter.size() > 0 && bits > 0 && letter.size() - shape.headBytes() == bytesFor(bits);
        }

        void cutLetter() {
            int id = idOfLetter();
            int head = shape.headBytes();
            for (int f = 0; f < shape.fields.rows(); f++) {
                if (!shape.isOfLetter(f, 0, id)) {
                    continue;
                }
                if (shape.fields.at(f, Shape.SLOT) == 0) {
                    cutValue(f, head);
                } else if (shape.fields.at(f, Shape.FIRST_OF_ITEM) == f) {
                    cutSlots(f, head);
                }
            }
        }

        private int numberInLetter(int f, int head) {
            int from = head * 8 + shape.fields.at(f, Shape.FIRST_BIT);
            int size = shape.fields.at(f, Shape.SIZE);
            int number = 0;
            for (int i = 0; i < size; i++) {
                int bit = (letter.at((from + i) / 8) >> ((from + i) % 8)) & 1;
                number = number | (bit << i);
            }
            return shape.fields.at(f, Shape.LEAST) < 0 ? signed(number, size) : number;
        }

        private void cutValue(int f, int head) {
            int number = numberInLetter(f, head);
            if (!shape.isInRange(f, number)) {
                return;
            }
            boolean isStep = shape.fields.at(f, Shape.STEP) == 1;
            int quiet = isStep ? 0 : shape.fields.at(f, Shape.LAST);
            if (number != quiet) {
                addEvent(f, shape.fields.at(f, Shape.FIRST_USE), number);
            }
            shape.fields.set(f, Shape.LAST, number);
        }

        private void cutSlots(int f, int head) {
            int before = shape.fields.at(f, Shape.PRESSED);
            int now = pressedInLetter(f, head);
            addUseEvents(f, before & ~now, 0);
            addUseEvents(f, now & ~before, 1);
            shape.fields.set(f, Shape.PRESSED, now);
        }

        private int pressedInLetter(int f, int head) {
            int mask = 0;
            for (int slot = f; slot < shape.fields.rows(); slot++) {
                if (shape.fields.at(slot, Shape.FIRST_OF_ITEM) != f) {
                    break;
                }
                int number = numberInLetter(slot, head);
                // A long, since NUMBER and LEAST may lie further apart than an int can tell.
                long place = (long) number - shape.fields.at(slot, Shape.LEAST);
                if (shape.isInRange(slot, number) && place < shape.fields.at(slot, Shape.USES)) {
                    mask = mask | (1 << shape.firstPlaceOfUse(slot, (int) place));
                }
            }
            return mask;
        }

        private void addUseEvents(int f, int mask, int number) {
            int left = mask;
            for (int i = 0; i < MAX_USES && left != 0; i++) {
                int place = shape.placeOfLeastUse(f, left);
                addEvent(f, shape.slotUse(f, place), number);
                left = left & ~(1 << place);
            }
        }

        private void addEvent(int f, int use, int number) {
            int row = events.addRow();
            events.set(row, OF_FIELD, f);
            events.set(row, OF_USE, use);
            events.set(row, NUMBER, number);
        }
    }
}
