/** Terms 3: THE FAULT of THE PROGRAM. */
final class FaultSentences implements Codes {
    private static final String FIRST_ITEM =
        "ITEMS are gone through from the first on; the first one with which any of these is so";
    private static final String LEAST_NUMBER = "of these the least number:";

    private FaultSentences() {}

    private static Trial single(Bench b) {
        return b.fresh().size(1).many(1);
    }

    @Told(in = "Terms", says = FIRST_ITEM)
    static void theFirstItemWithAFaultIsTold(Bench b) {
        b.fresh().many(41).size(32).hasFault(5, 0);
        b.fresh().size(32).many(41).hasFault(3, 0);
        b.fresh().push().end().says(12).says(7).hasFault(10, 1);
        b.fresh().end().says(5).hasFault(10, 0);
        // What would be said of the whole program does not count then.
        b.fresh().begin(0).pop().hasFault(7, 1);
    }

    @Told(in = "Terms", says = LEAST_NUMBER)
    static void ofSeveralFaultsOfAnItemTheLeastIsTold(Bench b) {
        // 1 and 2.
        b.fresh().says(15, 0, 0, 0).hasFault(1, 0);
        b.fresh().says(1).hasFault(1, 0);
        // 11 and 12; 11 and 14.
        b.fresh().least(1).in(VALUES).hasFault(11, 2);
        single(b).many(24).in(SLOTS).out(SLOTS).size(0).both(SLOTS).hasFault(11, 9);
        // 12 and 13; 12 and 14; 12, 13 and 14.
        b.fresh().size(31).many(9).least(1).in(VALUES).hasFault(12, 6);
        single(b).many(24).in(SLOTS).out(SLOTS).least(1).both(SLOTS).hasFault(12, 10);
        b.fresh().size(1).many(40).in(SLOTS).size(31).least(1).in(SLOTS).hasFault(12, 9);
        // 13 and 14.
        b.fresh().size(1).many(40).in(SLOTS).size(31).in(SLOTS).hasFault(13, 7);
    }

    @Told(in = "Terms", says = "1 it has not all its BYTES;")
    static void fault1NotAllItsBytes(Bench b) {
        for (int code = 1; code <= 3; code++) {
            int more = code == 3 ? 4 : code;
            Trial x = b.fresh().says(NOTHING, 4 + code);
            for (int i = 0; i < more; i++) {
                x.hasFault(1, 1);
                x.say(0);
            }
            x.hasNoFault();
        }
        b.fresh().fill(95).says(5).hasFault(1, 95);
        b.fresh().fill(94).says(5, 0).hasNoFault();
    }

    @Told(in = "Terms", says = "2 its SORT is 3, or is 0 with another TAG than told;")
    static void fault2SortOrTag(Bench b) {
        for (int tag = 0; tag <= 15; tag++) {
            b.fresh().says(NOTHING, tag * 16 + 12).hasFault(2, 1);
            if (tag < 8 || tag > 12) {
                b.fresh().says(NOTHING, tag * 16).hasFault(2, 1);
                b.fresh().says(NOTHING, tag * 16 + 1, 5).hasFault(2, 1);
            }
        }
        single(b).in(SLOTS).out(SLOTS).both(SLOTS).begin(0).end().hasNoFault();
    }

    @Told(in = "Terms", says = "3 (SORT 1, TAG 7) N is above 31;")
    static void fault3Size(Bench b) {
        b.fresh().size(0).size(1).size(31).hasNoFault();
        b.fresh().size(31).size(32).hasFault(3, 2);
        b.fresh().size(-1).hasFault(3, 0);
        b.fresh().wide(1, 7, HIGHEST).hasFault(3, 0);
        b.fresh().wide(1, 7, LOWEST + 31).hasNoFault();
        b.fresh().wide(1, 7, LOWEST + 32).hasFault(3, 0);
        // Of SORT 1 alone.
        b.fresh().says(7 * 16 + 8 + 1, 32).hasNoFault();
    }

    @Told(in = "Terms", says = "4 (TAG 8) N is 0 or above 15;")
    static void fault4Id(Bench b) {
        b.fresh().id(1).id(15).hasNoFault();
        b.fresh().id(15).id(16).hasFault(4, 2);
        b.fresh().id(1).id(0).hasFault(4, 2);
        b.fresh().says(8 * 16 + 4 + 1, 0).hasFault(4, 0);
        b.fresh().id(-1).hasFault(4, 0);
        b.fresh().wide(1, 8, HIGHEST).hasFault(4, 0);
        b.fresh().wide(1, 8, LOWEST).hasFault(4, 0);
        b.fresh().wide(1, 8, LOWEST + 15).hasNoFault();
    }

    @Told(in = "Terms", says = "5 (TAG 9) N is above 40;")
    static void fault5Many(Bench b) {
        b.fresh().many(0).many(1).many(40).hasNoFault();
        b.fresh().many(40).many(41).hasFault(5, 2);
        b.fresh().many(-1).hasFault(5, 0);
        b.fresh().wide(1, 9, HIGHEST).hasFault(5, 0);
        b.fresh().wide(1, 9, LOWEST + 40).hasNoFault();
    }

    @Told(in = "Terms", says = "6 (TAG 10) there are four on THE STACK;")
    static void fault6FourOnTheStack(Bench b) {
        b.fresh().push().push().push().push().hasNoFault();
        b.fresh().push().push().push().push().push().hasFault(6, 4);
        b.fresh().push().push().push().push().pop().push().hasNoFault();
        b.fresh().push().push().push().push().pop().push().push().hasFault(6, 6);
    }

    @Told(in = "Terms", says = "7 (TAG 11) there is none on it;")
    static void fault7NoneOnTheStack(Bench b) {
        b.fresh().pop().hasFault(7, 0);
        b.fresh().push().pop().hasNoFault();
        b.fresh().push().pop().pop().hasFault(7, 2);
        b.fresh().push().push().pop().pop().hasNoFault();
    }

    @Told(in = "Terms", says = "8 (SORT 2) there would be more than 32 USES;")
    static void fault8Uses(Bench b) {
        b.fresh().upto(31).hasNoFault();
        b.fresh().upto(32).hasFault(8, 0);
        b.fresh().upto(31).use(0).hasFault(8, 2);
        b.fresh().use(0).upto(30).hasNoFault();
        b.fresh().use(0).upto(31).hasFault(8, 1);
        b.fresh().first(10).upto(41).hasNoFault();
        b.fresh().first(10).upto(42).hasFault(8, 2);
        Trial single = b.fresh();
        for (int i = 0; i < 32; i++) single.use(i);
        single.hasNoFault();
        single.use(0).fault(0).is(8);
        // Those that are told by no ITEM, or for another one, are no more.
        b.fresh().upto(31).first(9).upto(8).says(3 * 16 + 8).hasNoFault();
        b.fresh().upto(31).begin(0).upto(31).end().upto(31).hasNoFault();
        // At the end of all numbers.
        b.fresh().wide(2, 2, HIGHEST).hasFault(8, 0);
        b.fresh().wide(2, 1, HIGHEST - 31).wide(2, 2, HIGHEST).hasNoFault();
        b.fresh().wide(2, 1, HIGHEST - 32).wide(2, 2, HIGHEST).hasFault(8, 5);
    }

    @Told(in = "Terms", says = "9 (TAG 10 of SORT 0) it would be the 13th GROUP;")
    static void fault9The13thGroup(Bench b) {
        Trial x = b.fresh();
        for (int g = 0; g < 12; g++) x.begin(0).end();
        x.hasNoFault();
        x.begin(0).hasFault(9, 24);
        Trial y = b.fresh();
        for (int g = 0; g < 12; g++) y.begin(0);
        y.hasFault(15, 12);
        y.begin(0).hasFault(9, 12);
    }

    @Told(in = "Terms", says = "10 (TAG 12) no GROUP is not ended;")
    static void fault10NoGroupToEnd(Bench b) {
        b.fresh().end().hasFault(10, 0);
        b.fresh().begin(0).end().hasNoFault();
        b.fresh().begin(0).end().end().hasFault(10, 2);
        b.fresh().begin(0).begin(0).end().end().hasNoFault();
    }

    @Told(in = "Terms", says = "11 (TAGS 8, 9, 11) SIZE or MANY is 0;")
    static void fault11SizeOrManyIs0(Bench b) {
        for (int way = 0; way <= 2; way++) {
            for (int n : new int[] {SLOTS, NO_FIELDS, VALUES}) {
                b.fresh().fields(way, n).hasFault(11, 0);
                b.fresh().size(1).fields(way, n).hasFault(11, 2);
                b.fresh().many(1).fields(way, n).hasFault(11, 2);
                single(b).fields(way, n).hasNoFault();
                single(b).size(0).fields(way, n).hasFault(11, 5);
                single(b).many(0).fields(way, n).hasFault(11, 5);
            }
        }
    }

    @Told(in = "Terms", says = "12 LEAST is above MOST, and N even;")
    static void fault12LeastAboveMost(Bench b) {
        for (int way = 0; way <= 2; way++) {
            single(b).least(6).most(5).fields(way, SLOTS).hasFault(12, 8);
            single(b).least(6).most(5).fields(way, VALUES).hasFault(12, 8);
            single(b).least(6).most(5).fields(way, NO_FIELDS).hasNoFault();
            single(b).least(6).most(5).fields(way, 3).hasNoFault();
            single(b).least(5).most(5).fields(way, VALUES).hasNoFault();
            single(b).least(-5).most(-6).fields(way, VALUES).hasFault(12, 8);
            single(b).least(-5).most(-5).fields(way, VALUES).hasNoFault();
        }
        single(b).wide(1, 1, HIGHEST).wide(1, 2, LOWEST).in(VALUES).hasFault(12, 14);
        single(b).wide(1, 1, LOWEST).wide(1, 2, HIGHEST).in(VALUES).hasNoFault();
    }

    @Told(in = "Terms", says = "13 the LETTER would have more than 256 BITS;")
    static void fault13Bits(Bench b) {
        for (int way = 0; way <= 2; way++) {
            for (int n : new int[] {NO_FIELDS, VALUES}) {
                b.fresh().size(8).many(32).fields(way, n).hasNoFault();
                b.fresh().size(8).many(33).fields(way, n).hasFault(13, 4);
                b.fresh().size(31).many(8).fields(way, n).size(8).many(1).fields(way, n).hasNoFault();
                b.fresh().size(31).many(8).fields(way, n).size(9).many(1).fields(way, n).hasFault(13, 10);
                b.fresh().size(31).many(40).fields(way, n).hasFault(13, 4);
            }
        }
        // Of one LETTER: another WAY or another ID is another one.
        Trial x = b.fresh().size(8).many(32).in(NO_FIELDS).out(NO_FIELDS).both(NO_FIELDS);
        x.id(1).in(NO_FIELDS).out(NO_FIELDS).both(NO_FIELDS).id(15).in(NO_FIELDS).hasNoFault();
        x.size(1).many(1).in(NO_FIELDS).hasFault(13, 26);
    }

    @Told(in = "Terms", says = "14 there would be more than 48 FIELDS.")
    static void fault14Fields(Bench b) {
        Trial x = b.fresh().size(1).many(40).in(VALUES).many(8).out(SLOTS);
        x.hasNoFault();
        x.both(NO_FIELDS).hasNoFault();
        x.many(1).both(VALUES).hasFault(14, 13);
        b.fresh().size(1).many(40).in(VALUES).many(9).out(SLOTS).hasFault(14, 8);
        b.fresh().size(1).many(24).in(VALUES).out(SLOTS).many(1).both(SLOTS).hasFault(14, 9);
    }

    @Told(in = "Terms", says = "Its place is that of the first BYTE of that ITEM.")
    static void thePlaceIsThatOfTheItemsFirstByte(Bench b) {
        b.fresh().size(32).hasFault(3, 0);
        b.fresh().size(1).size(300).hasFault(3, 2);
        b.fresh().wide(1, 3, 0).says(6, 0, 0).wide(1, 7, 32).hasFault(3, 8);
        b.fresh().fill(94).says(7, 0).hasFault(1, 94);
        b.fresh().fill(95).end().hasFault(10, 95);
    }

    @Told(in = "Terms", says = "15 a GROUP is not ended;")
    static void fault15AGroupIsNotEnded(Bench b) {
        b.fresh().begin(0).fault(0).is(15);
        b.fresh().begin(0).begin(0).end().fault(0).is(15);
        b.fresh().begin(0).begin(0).end().end().fault(0).is(0);
        b.fresh().begin(0).end().begin(0).fault(0).is(15);
    }

    @Told(in = "Terms", says = "16 there are FIELDS of ID 0 and of another ID;")
    static void fault16FieldsOfId0AndOfAnother(Bench b) {
        single(b).in(VALUES).id(1).in(VALUES).fault(0).is(16);
        single(b).in(VALUES).id(15).both(SLOTS).fault(0).is(16);
        single(b).push().id(1).out(SLOTS).pop().in(VALUES).fault(0).is(16);
        single(b).id(1).in(VALUES).id(2).in(VALUES).out(SLOTS).fault(0).is(0);
        // BITS without FIELDS are no FIELDS of their ID.
        single(b).in(NO_FIELDS).id(1).in(VALUES).fault(0).is(0);
        single(b).in(VALUES).id(1).in(NO_FIELDS).fault(0).is(0);
        single(b).in(VALUES).id(1).fault(0).is(0);
    }

    @Told(in = "Terms", says = "the place is how many BYTES THE PROGRAM has.")
    static void thePlaceOfTheWholeIsHowManyBytesThereAre(Bench b) {
        b.fresh().begin(0).hasFault(15, 1);
        b.fresh().begin(0).fill(96).hasFault(15, 96);
        single(b).in(VALUES).id(1).in(VALUES).hasFault(16, 10);
        single(b).in(VALUES).id(1).in(VALUES).fill(96).hasFault(16, 96);
    }

    @Told(in = "Terms", says = "`UNKNOWN = -1, OUTSIDE = -2, STATE = -3, FULL = -4, NO = -5, NONE = -6, FAULT = -7`: "
        + "What refused calls answer; NONE: there is none.")
    static void theConstantsAreWhatRefusedCallsAnswer(Bench b) {
        int[] constants = {ShapeReports.UNKNOWN, ShapeReports.OUTSIDE, ShapeReports.STATE, ShapeReports.FULL,
            ShapeReports.NO, ShapeReports.NONE, ShapeReports.FAULT};
        for (int i = 0; i < constants.length; i++) {
            if (constants[i] != -1 - i) throw new NotAsDue("constant " + i + " is " + constants[i]);
        }
        b.fresh().last(0).is(-1);
        b.fresh().say(256).is(-2);
        b.fresh().restore(0).is(-3);
        b.fresh().fill(96).say(0).is(-4);
        b.fresh().come().is(-5);
        b.fresh().next().is(-6);
        b.fresh().end().read().is(-7);
    }
}
