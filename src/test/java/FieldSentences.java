/** Promises 8 to 10: fields. */
final class FieldSentences implements Codes {
    private static final String P8 = "Promise 8", P9 = "Promise 9", P10 = "Promise 10";

    private FieldSentences() {}

    private static Trial single(Bench b) {
        return b.fresh().size(1).many(1);
    }

    /** FIELD 0, a STEP of ID 9 behind three BITS; FIELD 1, a SLOT; both in a GROUP. */
    private static Trial device(Bench b) {
        Trial x = b.fresh().id(9).size(3).many(1).both(NO_FIELDS).size(4).page(300).least(-7).most(200);
        return x.begin(0).use(5).both(STEPS).use(6).use(8).both(SLOTS).end().reads(2);
    }

    // Promise 8: field.

    @Told(in = P8, says = "Of a FIELD: the WAY (what = 0)")
    static void field0IsTheWay(Bench b) {
        Trial x = single(b).both(VALUES).in(SLOTS).out(STEPS).reads(3);
        x.field(0, 0).is(2);
        x.field(1, 0).is(0);
        x.field(2, 0).is(1);
    }

    @Told(in = P8, says = "ID (1)")
    static void field1IsTheId(Bench b) {
        device(b).field(0, 1).is(9);
        single(b).in(VALUES).reads(1).field(0, 1).is(0);
        single(b).id(15).in(VALUES).reads(1).field(0, 1).is(15);
    }

    @Told(in = P8, says = "first BIT (2)")
    static void field2IsTheFirstBit(Bench b) {
        Trial x = device(b);
        x.field(0, 2).is(3);
        x.field(1, 2).is(7);
        b.fresh().size(17).many(15).in(NO_FIELDS).size(1).many(1).in(SLOTS).reads(1).field(0, 2).is(255);
    }

    @Told(in = P8, says = "SIZE (3)")
    static void field3IsTheSize(Bench b) {
        device(b).field(0, 3).is(4);
        single(b).in(VALUES).reads(1).field(0, 3).is(1);
        single(b).size(31).in(VALUES).reads(1).field(0, 3).is(31);
    }

    @Told(in = P8, says = "LEAST (4)")
    static void field4IsLeast(Bench b) {
        device(b).field(0, 4).is(-7);
        single(b).wide(1, 1, LOWEST).in(VALUES).reads(1).field(0, 4).is(LOWEST);
    }

    @Told(in = P8, says = "MOST (5)")
    static void field5IsMost(Bench b) {
        device(b).field(0, 5).is(200);
        single(b).wide(1, 2, HIGHEST).in(VALUES).reads(1).field(0, 5).is(HIGHEST);
    }

    @Told(in = P8, says = "whether it is a SLOT (6: 1, 0)")
    static void field6IsWhetherItIsASlot(Bench b) {
        Trial x = device(b);
        x.field(0, 6).is(0);
        x.field(1, 6).is(1);
    }

    @Told(in = P8, says = "whether it is a STEP (7)")
    static void field7IsWhetherItIsAStep(Bench b) {
        Trial x = device(b);
        x.field(0, 7).is(1);
        x.field(1, 7).is(0);
    }

    @Told(in = P8, says = "PAGE (8)")
    static void field8IsThePage(Bench b) {
        device(b).field(1, 8).is(300);
        single(b).wide(1, 0, -1).in(VALUES).reads(1).field(0, 8).is(HIGHEST);
    }

    @Told(in = P8, says = "how many USES it has (9: of a VALUE 1)")
    static void field9IsHowManyUses(Bench b) {
        Trial x = b.fresh().size(1).many(2).use(5).use(6).use(7).out(VALUES).out(VALUES).out(SLOTS);
        x.use(5).use(5).out(SLOTS).many(1).upto(31).out(SLOTS).upto(31).out(VALUES).reads(10);
        int[] uses = {1, 1, 1, 1, 0, 0, 2, 2, 32, 1};
        for (int f = 0; f < 10; f++) x.field(f, 9).is(uses[f]);
    }

    @Told(in = P8, says = "the first of these (10; 0: there is none)")
    static void field10IsTheFirstUseOr0(Bench b) {
        Trial x = b.fresh().size(1).many(2).use(5).use(6).out(VALUES).use(8).use(7).out(SLOTS).out(SLOTS).out(VALUES);
        x.many(1).wide(2, 0, -1).out(SLOTS).reads(9);
        int[] first = {5, 6, 8, 8, 0, 0, 0, 0, HIGHEST};
        for (int f = 0; f < 9; f++) x.field(f, 10).is(first[f]);
    }

    @Told(in = P8, says = "its GROUP (11; NONE).")
    static void field11IsTheGroupOrNone(Bench b) {
        Trial x = single(b).in(VALUES).begin(0).in(SLOTS).end().in(VALUES).begin(0).in(VALUES).end().reads(4);
        int[] of = {NONE, 0, NONE, 1};
        for (int f = 0; f < 4; f++) x.field(f, 11).is(of[f]);
    }

    @Told(in = P8, says = "UNKNOWN;")
    static void fieldIsUnknownWithoutSuchAField(Bench b) {
        b.fresh().field(0, 0).is(UNKNOWN);
        Trial x = device(b);
        x.field(1, 0).is(2);
        for (int f : new int[] {-1, 2, 3, 48, LOWEST, HIGHEST}) {
            x.field(f, 0).is(UNKNOWN);
            x.field(f, 11).is(UNKNOWN);
        }
        Trial y = b.fresh().size(1).many(24).in(SLOTS).out(SLOTS).reads(48);
        y.field(47, 0).is(1);
        y.field(48, 0).is(UNKNOWN);
    }

    @Told(in = P8, says = "UNKNOWN; OUTSIDE.")
    static void fieldIsOutsideBelow0AndAbove11(Bench b) {
        Trial x = device(b);
        x.field(0, 0).is(2);
        x.field(0, 11).is(0);
        for (int what : new int[] {-1, 12, 13, LOWEST, HIGHEST}) x.field(0, what).is(OUTSIDE);
    }

    // Promise 9: group.

    @Told(in = P9, says = "Of GROUP g: its KIND (what = 0)")
    static void group0IsTheKind(Bench b) {
        Trial x = b.fresh().begin(5).end().begin(0).end().wide(0, 10, HIGHEST).end().reads(0);
        x.group(0, 0).is(5);
        x.group(1, 0).is(0);
        x.group(2, 0).is(HIGHEST);
    }

    @Told(in = P9, says = "USE (1)")
    static void group1IsTheUse(Bench b) {
        Trial x = b.fresh().use(12).use(3).begin(5).end().begin(6).end().reads(0);
        x.group(0, 1).is(12);
        x.group(1, 1).is(0);
    }

    @Told(in = P9, says = "the GROUP that it is within (2; NONE)")
    static void group2IsTheGroupAroundItOrNone(Bench b) {
        Trial x = b.fresh().begin(5).begin(6).begin(7).end().end().begin(8).end().end().begin(9).end().reads(0);
        int[] within = {NONE, 0, 1, 0, NONE};
        for (int g = 0; g < 5; g++) x.group(g, 2).is(within[g]);
    }

    @Told(in = P9, says = "how many FIELDS are of it, or of GROUPS within it, or within these, and so on (3);")
    static void group3IsHowManyFieldsAreWithin(Bench b) {
        Trial x = b.fresh().size(1).many(1).out(SLOTS).begin(0).in(VALUES).begin(0).begin(0).many(3).in(SLOTS);
        x.end().end().many(2).out(VALUES).in(NO_FIELDS).begin(0).end().end().begin(0).both(STEPS).end().reads(9);
        int[] fields = {6, 3, 3, 0, 2};
        for (int g = 0; g < 5; g++) x.group(g, 3).is(fields[g]);
        // As deep as GROUPS can be.
        Trial y = single(b);
        for (int g = 0; g < 12; g++) y.begin(0).in(SLOTS);
        for (int g = 0; g < 12; g++) y.end();
        y.reads(12);
        for (int g = 0; g < 12; g++) y.group(g, 3).is(12 - g);
    }

    @Told(in = P9, says = "NONE: there is no such GROUP.")
    static void groupIsNoneWithoutSuchAGroup(Bench b) {
        b.fresh().group(0, 0).is(NONE);
        Trial x = b.fresh().begin(0).end().begin(0).end().reads(0);
        x.group(1, 0).is(0);
        for (int g : new int[] {-1, -6, 2, 12, LOWEST, HIGHEST}) {
            for (int what = 0; what <= 3; what++) x.group(g, what).is(NONE);
        }
    }

    @Told(in = P9, says = "OUTSIDE: what.")
    static void groupIsOutsideBelow0AndAbove3(Bench b) {
        Trial x = b.fresh().begin(0).end().reads(0);
        x.group(0, 3).is(0);
        for (int what : new int[] {-1, 4, 5, LOWEST, HIGHEST}) {
            x.group(0, what).is(OUTSIDE);
            x.group(1, what).is(OUTSIDE);
        }
    }

    // Promise 10: length.

    @Told(in = P10, says = "How many BITS the LETTER of a WAY (0 to 2) and an ID (0 to 15) has.")
    static void lengthIsHowManyBitsTheLetterHas(Bench b) {
        Trial x = b.fresh().size(8).many(32).in(NO_FIELDS).id(15).size(5).many(1).out(VALUES).both(NO_FIELDS);
        x.both(SLOTS).reads(2);
        x.length(0, 0).is(256);
        x.length(1, 15).is(5);
        x.length(2, 15).is(10);
        x.length(0, 15).is(0);
        x.length(2, 0).is(0);
        x.length(1, 14).is(0);
    }

    @Told(in = P10, says = "OUTSIDE: both.")
    static void lengthIsOutsideByBoth(Bench b) {
        Trial x = single(b).in(VALUES).out(VALUES).both(VALUES).reads(3);
        for (int way : new int[] {-1, 3, LOWEST, HIGHEST}) x.length(way, 0).is(OUTSIDE);
        for (int id : new int[] {-1, 16, LOWEST, HIGHEST}) {
            for (int way = 0; way <= 2; way++) x.length(way, id).is(OUTSIDE);
        }
        x.length(3, 16).is(OUTSIDE);
        x.length(2, 15).is(0);
    }
}
