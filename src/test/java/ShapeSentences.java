/** Terms 2: LETTERS, FIELDS and GROUPS. */
final class ShapeSentences implements Codes {
    private ShapeSentences() {}

    /** SIZE and MANY are 1, so that an ITEM of FIELDS makes one FIELD of one BIT. */
    private static Trial single(Bench b) {
        return b.fresh().size(1).many(1);
    }

    @Told(in = "Terms", says = "A LETTER has a WAY (0 IN, 1 OUT, 2 BOTH), and an ID, 0 to 15")
    static void lettersAreApartByWayAndId(Bench b) {
        Trial x = b.fresh().many(1).size(3).in(NO_FIELDS).size(4).out(NO_FIELDS).size(5).both(NO_FIELDS);
        x.id(1).size(6).in(NO_FIELDS).id(15).size(7).out(NO_FIELDS).size(8).both(NO_FIELDS).reads(0);
        int[][] bits = new int[3][16];
        bits[0][0] = 3;
        bits[1][0] = 4;
        bits[2][0] = 5;
        bits[0][1] = 6;
        bits[1][15] = 7;
        bits[2][15] = 8;
        for (int way = 0; way <= 2; way++) {
            for (int id = 0; id <= 15; id++) x.length(way, id).is(bits[way][id]);
        }
    }

    @Told(in = "Terms", says = "at first none has any BITS.")
    static void atFirstNoLetterHasBits(Bench b) {
        Trial x = b.fresh();
        for (int way = 0; way <= 2; way++) {
            for (int id = 0; id <= 15; id++) x.length(way, id).is(0);
        }
        // Nor behind what a program that was read before has made.
        x.size(5).many(2).in(VALUES).reads(2).length(0, 0).is(10);
        x.reads(2).length(0, 0).is(10);
        x.field(0, 2).is(0);
        x.wipe();
        x.reads(0).length(0, 0).is(0);
    }

    @Told(in = "Terms", says = "An ITEM of TAG 8, 9, 11 makes the LETTER of its WAY and of ID longer by MANY times SIZE "
        + "BITS, MANY pieces of SIZE BITS one behind the other.")
    static void anItemMakesItsLetterLongerByManyTimesSize(Bench b) {
        for (int way = 0; way <= 2; way++) {
            Trial x = b.fresh().size(31).many(7).fields(way, NO_FIELDS).size(7).many(5).fields(way, VALUES);
            x.size(1).many(4).fields(way, SLOTS).reads(9);
            x.length(way, 0).is(256);
            for (int k = 0; k < 5; k++) x.field(k, 2).is(217 + 7 * k);
            for (int k = 0; k < 4; k++) x.field(5 + k, 2).is(252 + k);
        }
    }

    @Told(in = "Terms", says = "If N is odd, there are no FIELDS for them.")
    static void oddNMakesNoFields(Bench b) {
        for (int n : new int[] {1, 3, 5, 7, 127, 255, 257, 32767}) {
            Trial x = single(b).out(n).out(VALUES).reads(1);
            x.length(1, 0).is(2);
            x.field(0, 2).is(1);
        }
        single(b).wide(0, 9, -1).reads(0).length(1, 0).is(1);
    }

    @Told(in = "Terms", says = "Else each piece is a FIELD; FIELDS are numbered from 0 on as they come.")
    static void eachPieceIsAFieldNumberedAsItComes(Bench b) {
        Trial x = b.fresh().size(3).many(2).both(SLOTS).in(NO_FIELDS).many(1).in(VALUES).many(3).out(STEPS);
        x.wide(0, 8, LOWEST).reads(9);
        int[] ways = {2, 2, 0, 1, 1, 1, 0, 0, 0}, bits = {0, 3, 6, 0, 3, 6, 9, 12, 15};
        for (int f = 0; f < 9; f++) {
            x.field(f, 0).is(ways[f]);
            x.field(f, 2).is(bits[f]);
        }
        x.field(9, 0).is(UNKNOWN);
    }

    @Told(in = "Terms", says = "If N by 2, cut, is odd, it is a VALUE")
    static void itIsAValueIfNBy2IsOdd(Bench b) {
        int[] n = {0, 2, 4, 6, 8, 10, 254, 256, 258};
        int[] slot = {1, 0, 1, 0, 1, 0, 0, 1, 0};
        Trial x = single(b);
        for (int k : n) x.out(k);
        x.reads(n.length);
        for (int f = 0; f < n.length; f++) x.field(f, 6).is(slot[f]);
    }

    @Told(in = "Terms", says = "its USE is, of the k-th piece of the ITEM, the k-th USE that was told, or the last one, "
        + "if there are fewer")
    static void aValueHasTheUseOfItsPieceOrTheLastOne(Bench b) {
        Trial x = b.fresh().size(1).many(4).use(11).use(13).use(12).out(VALUES).many(2).use(21).use(22).use(23);
        x.out(VALUES).many(3).use(31).out(STEPS).reads(9);
        int[] uses = {11, 13, 12, 12, 21, 22, 31, 31, 31};
        for (int f = 0; f < 9; f++) x.field(f, 10).is(uses[f]);
    }

    @Told(in = "Terms", says = "if there are fewer (0, if there are none).")
    static void aValueHasTheUse0IfThereAreNone(Bench b) {
        Trial x = b.fresh().size(4).many(2).most(7).in(VALUES).reads(2);
        x.field(0, 10).is(0);
        x.field(1, 10).is(0);
        x.comes(0x21).is(2);
        x.tells(0, 0, 1).tells(1, 0, 2);
    }

    @Told(in = "Terms", says = "Else it is a SLOT: it has all USES that were told (the same ones for all pieces of the "
        + "ITEM).")
    static void aSlotHasAllUses(Bench b) {
        Trial x = b.fresh().most(40).size(8).many(3).use(5).use(4).use(3).use(4).in(SLOTS);
        x.many(1).first(100).upto(131).in(SLOTS).reads(4);
        for (int f = 0; f < 3; f++) {
            x.field(f, 9).is(4);
            x.field(f, 10).is(5);
        }
        x.field(3, 9).is(32);
        // Each piece can press each of them.
        x.comes(2, 1, 0, 31).is(4);
        x.tells(0, 3, 1).tells(0, 4, 1).tells(0, 5, 1).tells(3, 131, 1);
    }

    @Told(in = "Terms", says = "It is a STEP, if it is a VALUE, and N by 4, cut, is odd.")
    static void itIsAStepIfItIsAValueAndNBy4IsOdd(Bench b) {
        int[] n = {0, 2, 4, 6, 8, 10, 12, 14, 254, 258, 262};
        int[] step = {0, 0, 0, 1, 0, 0, 0, 1, 1, 0, 1};
        Trial x = single(b);
        for (int k : n) x.out(k);
        x.reads(n.length);
        for (int f = 0; f < n.length; f++) x.field(f, 7).is(step[f]);
    }

    @Told(in = "Terms", says = "Each FIELD has PAGE, LEAST, MOST as they are then")
    static void aFieldHasPageLeastMostAsTheyAreThen(Bench b) {
        Trial x = single(b).page(1).least(-2).most(3).out(VALUES).page(4).least(5).most(6).out(SLOTS);
        x.page(7).least(8).most(9).reads(2);
        x.hasField(0, 1, 0, 0, 1, -2, 3, 0, 0, 1);
        x.hasField(1, 1, 0, 1, 1, 5, 6, 1, 0, 4);
    }

    @Told(in = "Terms", says = "is of the GROUP that was begun last and is not ended (NONE, if there is none).")
    static void aFieldIsOfTheGroupThatIsNotEnded(Bench b) {
        Trial x = single(b).out(VALUES).begin(0).out(SLOTS).begin(0).out(VALUES).end().out(STEPS).begin(0).out(SLOTS);
        x.end().end().out(SLOTS).reads(6);
        int[] of = {NONE, 0, 1, 0, 2, NONE};
        for (int f = 0; f < 6; f++) x.field(f, 11).is(of[f]);
    }

    // The NUMBER of a FIELD.

    /** One VALUE of so many BITS, with LEAST and MOST. */
    private static Trial value(Bench b, int size, int least, int most) {
        return b.fresh().wide(1, 1, least).wide(1, 2, most).size(size).many(1).in(VALUES).reads(1);
    }

    private static void numberIs(Trial x, int due, int... bytes) {
        x.comes(bytes).is(1);
        x.tells(0, 0, due);
    }

    @Told(in = "Terms", says = "The NUMBER of a FIELD: its BITS, the first one lowest, as a number not below 0;")
    static void theNumberIsItsBitsFirstOneLowest(Bench b) {
        numberIs(value(b, 1, 0, HIGHEST), 1, 1);
        numberIs(value(b, 8, 0, HIGHEST), 1, 1);
        numberIs(value(b, 8, 0, HIGHEST), 128, 128);
        numberIs(value(b, 8, 0, HIGHEST), 255, 255);
        numberIs(value(b, 12, 0, HIGHEST), 0xf34, 0x34, 0x0f);
        numberIs(value(b, 31, 0, HIGHEST), 1 << 30, 0, 0, 0, 64);
        numberIs(value(b, 31, 0, HIGHEST), HIGHEST, 255, 255, 255, 127);
    }

    @Told(in = "Terms", says = "if LEAST is below 0, in two's complement of SIZE BITS.")
    static void theNumberIsInTwosComplementIfLeastIsBelow0(Bench b) {
        numberIs(value(b, 1, -1, 0), -1, 1);
        numberIs(value(b, 8, -1, 127), -1, 255);
        numberIs(value(b, 8, LOWEST, HIGHEST), -128, 128);
        numberIs(value(b, 8, LOWEST, HIGHEST), 127, 127);
        numberIs(value(b, 12, LOWEST, HIGHEST), -2048, 0, 8);
        numberIs(value(b, 12, LOWEST, HIGHEST), 2047, 255, 7);
        numberIs(value(b, 31, LOWEST, HIGHEST), -(1 << 30), 0, 0, 0, 64);
        numberIs(value(b, 31, LOWEST, HIGHEST), (1 << 30) - 1, 255, 255, 255, 63);
    }

    @Told(in = "Terms", says = "(The BIT i of a LETTER is bit i modulo 8 of the BYTE i by 8, cut; bit 0 is the lowest.)")
    static void bitIOfALetterIsBitIModulo8OfByteIBy8(Bench b) {
        for (int i : new int[] {0, 1, 6, 7, 8, 9, 15, 16, 23}) {
            Trial x = b.fresh().most(1).size(1).many(24).in(VALUES).out(VALUES).reads(48);
            int[] bytes = new int[3];
            bytes[i / 8] = 1 << i % 8;
            x.comes(bytes).is(1);
            x.tells(i, 0, 1);
            x.want(24 + i, 1).is(0);
            for (int k = 0; k < 3; k++) x.made(1, 0, k).is(bytes[k]);
        }
        // Across BYTES: the BITS 6 to 9.
        Trial x = b.fresh().size(6).many(1).in(NO_FIELDS).most(15).size(4).in(VALUES).reads(1);
        numberIs(x, 2 + 4, 128, 1);
    }

    @Told(in = "Terms", says = "It is IN RANGE, if it is LEAST to MOST.")
    static void itIsInRangeIfItIsLeastToMost(Bench b) {
        Trial x = value(b, 8, 10, 20);
        x.comes(9).is(0);
        numberIs(x, 10, 10);
        x.comes(21).is(0);
        numberIs(x, 20, 20);
        Trial y = value(b, 8, -3, -2);
        y.comes(256 - 4).is(0);
        numberIs(y, -3, 256 - 3);
        y.comes(256 - 1).is(0);
        numberIs(y, -2, 256 - 2);
        Trial z = value(b, 8, 7, 7);
        z.comes(6).is(0);
        z.comes(8).is(0);
        numberIs(z, 7, 7);
        Trial w = single(b).least(-2).most(5).out(VALUES).reads(1);
        w.want(0, -3).is(OUTSIDE);
        w.want(0, 6).is(OUTSIDE);
        w.want(0, -2).is(0);
        w.want(0, 5).is(-2);
    }

    // GROUPS.

    @Told(in = "Terms", says = "GROUPS are numbered from 0 on as they begin: each has a KIND, N")
    static void groupsAreNumberedAsTheyBeginAndHaveAKind(Bench b) {
        Trial x = b.fresh().begin(7).begin(300).end().begin(0).end().end().wide(0, 10, -1).end().reads(0);
        int[] kinds = {7, 300, 0, HIGHEST};
        for (int g = 0; g < 4; g++) x.group(g, 0).is(kinds[g]);
        x.group(4, 0).is(NONE);
    }

    @Told(in = "Terms", says = "the USE that was told first (0: none)")
    static void aGroupHasTheUseThatWasToldFirst(Bench b) {
        Trial x = b.fresh().use(9).use(3).use(12).begin(0).begin(0).first(4).begin(0).first(4).upto(6).begin(0);
        x.use(0).use(8).begin(0).end().end().end().end().end().reads(0);
        int[] uses = {9, 0, 0, 4, 0};
        for (int g = 0; g < 5; g++) x.group(g, 1).is(uses[g]);
    }

    @Told(in = "Terms", says = "the GROUP that it is within (NONE).")
    static void aGroupIsWithinAnotherOrNone(Bench b) {
        Trial x = b.fresh().begin(0).begin(0).begin(0).end().end().end().begin(0).end().reads(0);
        int[] within = {NONE, 0, 1, NONE};
        for (int g = 0; g < 4; g++) x.group(g, 2).is(within[g]);
    }
}
