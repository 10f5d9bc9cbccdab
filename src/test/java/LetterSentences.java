/** Promises 11 to 15: letters that come, events. */
final class LetterSentences implements Codes {
    private static final String P11 = "Promise 11", P12 = "Promise 12", P13 = "Promise 13", P14 = "Promise 14";
    private static final String P15 = "Promise 15";

    private LetterSentences() {}

    /** VALUES or STEPS of WAY 0, of eight BITS each, LEAST to MOST. */
    private static Trial values(Bench b, int many, int n, int least, int most) {
        return b.fresh().least(least).most(most).size(8).many(many).in(n).reads(many);
    }

    /** One VALUE of WAY 0, of eight BITS, 0 to 100. */
    private static Trial value(Bench b) {
        return values(b, 1, VALUES, 0, 100);
    }

    /** SLOTS of WAY 0, of eight BITS each, LEAST to MOST, with USES. */
    private static Trial slots(Bench b, int many, int least, int most, int... uses) {
        Trial x = b.fresh().least(least).most(most).size(8).many(many);
        for (int use : uses) x.use(use);
        return x.in(SLOTS).reads(many);
    }

    // Promise 11: put.

    @Told(in = P11, says = "A BYTE more of THE LETTER: how many it has.")
    static void putAnswersHowManyBytesTheLetterHas(Bench b) {
        Trial x = b.fresh();
        for (int n = 1; n <= 33; n++) x.put(n + 200).is(n);
        x.count(4).is(33);
    }

    @Told(in = P11, says = "OUTSIDE; FULL")
    static void putIsOutsideBelow0AndAbove255(Bench b) {
        Trial x = b.fresh();
        for (int n : new int[] {-1, 256, 257, LOWEST, HIGHEST}) x.put(n).is(OUTSIDE);
        x.put(0).is(1);
        x.put(255).is(2);
    }

    @Told(in = P11, says = "FULL: it has 33.")
    static void putIsFullAt33(Bench b) {
        Trial x = b.fresh().puts(new int[32]);
        x.put(0).is(33);
        x.put(0).is(FULL);
        x.put(255).is(FULL);
        x.come().is(NO);
        x.put(0).is(1);
        // The longest letter: an ID and 256 BITS.
        Trial y = b.fresh().least(-1).size(8).many(32).id(15).in(VALUES).reads(32).puts(15);
        y.puts(RefusalSentences.bytes(31, 255)).put(255).is(33);
        y.come().is(32);
    }

    // Promise 12: come; what is refused.

    @Told(in = P12, says = "THE LETTER comes, of WAY 0;")
    static void aLetterComesOfWay0(Bench b) {
        Trial x = b.fresh().most(9).size(8).many(1).out(VALUES).both(VALUES).in(VALUES).reads(3);
        x.comes(5).is(1);
        x.tells(2, 0, 5);
        x.last(0).is(0);
        x.last(1).is(0);
        b.fresh().most(9).size(8).many(1).out(VALUES).reads(1).comes(5).is(NO);
        b.fresh().most(9).size(8).many(1).both(VALUES).reads(1).comes(5).is(NO);
    }

    @Told(in = P12, says = "it is empty then")
    static void behindComeTheLetterIsEmpty(Bench b) {
        Trial x = value(b);
        x.comes(5).is(1);
        x.count(4).is(0);
        x.put(6).is(1);
        x.come().is(1);
        x.comes(6).is(0);
        x.count(4).is(0);
    }

    @Told(in = P12, says = "(behind NO, too)")
    static void behindNoTheLetterIsEmpty(Bench b) {
        Trial x = value(b);
        x.comes(5, 6).is(NO);
        x.count(4).is(0);
        x.comes(7).is(1);
        Trial y = b.fresh().most(9).size(8).many(1).id(3).in(VALUES).reads(1);
        for (int[] letter : new int[][] {{3}, {4, 0}, {16, 0}, {3, 0, 0}}) {
            y.comes(letter).is(NO);
            y.count(4).is(0);
        }
    }

    @Told(in = P12, says = "how many EVENTS are more.")
    static void comeAnswersHowManyEventsAreMore(Bench b) {
        Trial x = values(b, 3, VALUES, 0, 100);
        x.comes(0, 0, 0).is(0);
        x.comes(1, 2, 3).is(3);
        x.comes(1, 2, 4).is(1);
        x.comes(1, 2, 4).is(0);
        x.count(2).is(4);
    }

    @Told(in = P12, says = "If any FIELD has an ID other than 0, its first BYTE is the ID, the others are its BITS;")
    static void theFirstByteIsTheIdIfAnyFieldHasOne(Bench b) {
        Trial x = b.fresh().most(99).size(8).many(1).id(1).in(VALUES).id(15).in(VALUES).in(VALUES).reads(3);
        x.comes(1, 5).is(1);
        x.tells(0, 0, 5);
        x.comes(15, 6, 7).is(2);
        x.tells(1, 0, 6).tells(2, 0, 7);
        x.last(0).is(5);
        // Any FIELD: of another WAY, too; then BITS of ID 0 without FIELDS have 0 as their first BYTE.
        Trial y = b.fresh().size(8).many(1).in(NO_FIELDS).id(2).out(VALUES).reads(1);
        y.comes(7).is(NO);
        y.comes(0, 7).is(0);
        y.count(5).is(1);
    }

    @Told(in = P12, says = "else its ID is 0, and all are its BITS.")
    static void allBytesAreBitsIfNoFieldHasAnId(Bench b) {
        Trial x = values(b, 2, VALUES, 0, 100);
        x.comes(0, 7).is(1);
        x.tells(1, 0, 7);
        x.comes(9, 7).is(1);
        x.tells(0, 0, 9);
        // An ID of BITS alone is no FIELD's.
        Trial y = b.fresh().most(99).size(8).many(1).in(VALUES).id(3).in(NO_FIELDS).reads(1);
        y.comes(3).is(1);
        y.tells(0, 0, 3);
        Trial z = b.fresh().size(8).many(1).id(3).in(NO_FIELDS).reads(0);
        z.comes(3, 0).is(NO);
        z.comes(3).is(NO);
    }

    @Told(in = P12, says = "NO: it has no BYTE")
    static void comeIsNoWithoutAByte(Bench b) {
        b.fresh().come().is(NO);
        value(b).come().is(NO);
        b.fresh().size(8).many(1).id(3).in(VALUES).reads(1).come().is(NO);
        b.fresh().size(8).many(1).in(NO_FIELDS).id(3).in(VALUES).reads(1).come().is(NO);
    }

    @Told(in = P12, says = "the LETTER of WAY 0 and this ID has no BITS")
    static void comeIsNoWithoutBits(Bench b) {
        b.fresh().comes(1).is(NO);
        Trial x = b.fresh().size(8).many(1).id(3).in(VALUES).id(4).out(VALUES).reads(2);
        x.comes(4, 0).is(NO);
        x.comes(4).is(NO);
        x.comes(0, 0).is(NO);
        x.comes(0).is(NO);
        x.comes(15).is(NO);
        x.comes(3, 0).is(0);
    }

    @Told(in = P12, says = "(or the ID is above 15)")
    static void comeIsNoWithAnIdAbove15(Bench b) {
        // BITS of all WAYS, so that nothing behind the IDs of WAY 0 may be taken for them.
        Trial x = b.fresh().size(8).many(1).in(NO_FIELDS).out(NO_FIELDS).both(NO_FIELDS);
        x.id(15).in(VALUES).out(VALUES).both(VALUES).reads(3);
        x.comes(15, 0).is(0);
        for (int id : new int[] {16, 17, 31, 32, 47, 48, 255}) {
            x.comes(id, 0).is(NO);
            x.comes(id).is(NO);
        }
    }

    @Told(in = P12, says = "the BYTES for BITS are not just as many as its BITS and 7, added, by 8, cut;")
    static void comeIsNoWithOtherThanJustSoManyBytes(Bench b) {
        int[] bits = {1, 7, 8, 9, 15, 16, 17, 31}, bytes = {1, 1, 1, 2, 2, 2, 3, 4};
        for (int i = 0; i < bits.length; i++) {
            Trial x = b.fresh().size(bits[i]).many(1).in(VALUES).reads(1);
            x.comes(new int[bytes[i] - 1]).is(NO);
            x.comes(new int[bytes[i] + 1]).is(NO);
            x.comes(new int[bytes[i]]).is(0);
            Trial y = b.fresh().size(bits[i]).many(1).id(1).in(VALUES).reads(1);
            y.puts(1).comes(new int[bytes[i] - 1]).is(NO);
            y.puts(1).comes(new int[bytes[i] + 1]).is(NO);
            y.puts(1).comes(new int[bytes[i]]).is(0);
        }
        // What is left of the last BYTE is of no FIELD.
        Trial w = b.fresh().most(99).size(3).many(3).in(VALUES).reads(3);
        w.comes(0, 254).is(0);
        w.comes(0, 255).is(1);
        Trial z = b.fresh().size(8).many(32).in(VALUES).reads(32);
        z.comes(new int[31]).is(NO);
        z.comes(new int[33]).is(NO);
        z.comes(new int[32]).is(0);
    }

    @Told(in = P12, says = "FULL: there are 100 EVENTS or more.")
    static void comeIsFullAt100Events(Bench b) {
        Trial x = RefusalSentences.hundredEvents(b);
        x.comes(RefusalSentences.bytes(20, 2)).is(FULL);
        x.next().is(99);
        // 99 are not too many, however many more there are then.
        x.come().is(20);
        x.count(2).is(119);
        x.comes(RefusalSentences.bytes(20, 1)).is(FULL);
        for (int left = 118; left >= 100; left--) x.next().is(left);
        x.come().is(FULL);
        x.next().is(99);
        x.come().is(20);
    }

    @Told(in = P12, says = "FULL: there are 100 EVENTS or more.")
    static void comeIsFullThoughTheLetterHasNoNews(Bench b) {
        Trial x = RefusalSentences.hundredEvents(b);
        x.comes(RefusalSentences.bytes(20, 1)).is(FULL);
        x.next().is(99);
        x.come().is(0);
    }

    @Told(in = P12, says = "FULL: there are 100 EVENTS or more.")
    static void comeBehind99EventsTellsAsManyAsThereAre(Bench b) {
        // 48 SLOTS press 48 USES, then let them go and press 48 others: 96 EVENTS by one letter.
        Trial x = b.fresh().most(31).size(5).many(16).upto(31).in(SLOTS).upto(31).in(SLOTS).upto(31).in(SLOTS);
        x.reads(48).comes(slotNumbers(0)).is(48);
        x.comes(slotNumbers(16)).is(96);
        for (int left = 143; left >= 99; left--) x.next().is(left);
        x.comes(slotNumbers(0)).is(96);
        x.count(2).is(195);
        for (int left = 194; left >= 1; left--) x.next().is(left);
        x.tells(32, 15, 1).tellsNoMore();
    }

    /** 48 NUMBERS of five BITS, three times from the given one on to 15 above it. */
    private static int[] slotNumbers(int from) {
        int[] bytes = new int[30];
        for (int bit = 0; bit < 240; bit++) bytes[bit / 8] |= (from + bit / 5 % 16 >> bit % 5 & 1) << bit % 8;
        return bytes;
    }

    // Promise 12: come; VALUES.

    @Told(in = P12, says = "Its FIELDS are gone through by rising numbers.")
    static void fieldsAreGoneThroughByRisingNumbers(Bench b) {
        Trial x = b.fresh().most(9).size(8).many(2).in(VALUES).use(3).in(SLOTS).in(STEPS).many(1).use(2).in(SLOTS);
        x.in(VALUES).reads(8);
        x.comes(1, 2, 0, 0, 5, 6, 0, 7).is(7);
        x.tells(0, 0, 1).tells(1, 0, 2).tells(2, 3, 1).tells(4, 0, 5).tells(5, 0, 6).tells(6, 2, 1).tells(7, 0, 7);
        x.tellsNoMore();
    }

    @Told(in = P12, says = "A VALUE whose NUMBER is IN RANGE (else nothing)")
    static void aValueOutOfRangeIsNothing(Bench b) {
        Trial x = values(b, 1, VALUES, 10, 20);
        x.comes(9).is(0);
        x.last(0).is(0);
        x.comes(10).is(1);
        x.comes(21).is(0);
        x.last(0).is(10);
        x.comes(20).is(1);
        x.comes(0).is(0);
        x.last(0).is(20);
        x.comes(20).is(0);
        Trial y = values(b, 1, STEPS, -5, 5);
        y.comes(5).is(1);
        y.comes(6).is(0);
        y.last(0).is(5);
        y.comes(256 - 6).is(0);
        y.comes(256 - 5).is(1);
    }

    @Told(in = P12, says = "if it is a STEP, and the NUMBER is not 0")
    static void aStepIsAnEventIfItIsNot0(Bench b) {
        Trial x = values(b, 1, STEPS, -5, 5);
        x.comes(0).is(0);
        x.comes(1).is(1);
        x.comes(1).is(1);
        x.comes(0).is(0);
        x.comes(0).is(0);
        x.comes(255).is(1);
        x.tells(0, 0, 1).tells(0, 0, 1).tells(0, 0, -1).tellsNoMore();
    }

    @Told(in = P12, says = "or it is no STEP, and the NUMBER is not the LAST one of the FIELD")
    static void anotherValueIsAnEventIfItIsNotTheLastOne(Bench b) {
        Trial x = value(b);
        x.comes(0).is(0);
        x.comes(5).is(1);
        x.comes(5).is(0);
        x.comes(0).is(1);
        x.comes(5).is(1);
        x.tells(0, 0, 5).tells(0, 0, 0).tells(0, 0, 5).tellsNoMore();
        // The LAST one of the FIELD, not of another.
        Trial y = values(b, 2, VALUES, 0, 100);
        y.comes(5, 6).is(2);
        y.comes(6, 5).is(2);
    }

    @Told(in = P12, says = "there is an EVENT: the FIELD, its USE, the NUMBER;")
    static void anEventOfAValueTellsFieldUseAndNumber(Bench b) {
        Trial x = b.fresh().least(-9).most(9).size(8).many(3).use(40).use(30).in(VALUES).wide(2, 0, -1).in(STEPS);
        x.reads(6).comes(0, 256 - 9, 9, 1, 0, 2).is(4);
        x.tells(1, 30, -9).tells(2, 30, 9).tells(3, HIGHEST, 1).tells(5, HIGHEST, 2).tellsNoMore();
    }

    @Told(in = P12, says = "whether there is an EVENT or not, that is the LAST one then.")
    static void theNumberIsTheLastOneThen(Bench b) {
        Trial x = values(b, 1, STEPS, -5, 5);
        x.comes(3).is(1);
        x.last(0).is(3);
        x.comes(0).is(0);
        x.last(0).is(0);
        x.comes(256 - 5).is(1);
        x.last(0).is(-5);
        Trial y = value(b);
        y.comes(7).is(1);
        y.last(0).is(7);
        y.comes(7).is(0);
        y.last(0).is(7);
    }

    // Promise 12: come; SLOTS.

    @Told(in = P12, says = "SLOTS of one ITEM are done together, when the first one of them comes:")
    static void slotsOfOneItemAreDoneTogether(Bench b) {
        Trial x = b.fresh().most(9).size(8).many(3).use(5).use(6).in(SLOTS).many(1).in(VALUES).reads(4);
        x.comes(1, 9, 0, 7).is(3);
        x.tells(0, 5, 1).tells(0, 6, 1).tells(3, 0, 7);
        // A USE that goes over from one SLOT to another is pressed all the time.
        x.comes(9, 0, 1, 7).is(0);
        x.comes(0, 9, 9, 7).is(1);
        x.tells(0, 6, 0);
    }

    @Told(in = P12, says = "SLOTS of one ITEM are done together")
    static void slotsOfTwoItemsAreApart(Bench b) {
        Trial x = b.fresh().most(9).size(8).many(1).use(5).in(SLOTS).use(5).in(SLOTS).reads(2);
        x.comes(0, 9).is(1);
        x.tells(0, 5, 1);
        x.comes(9, 0).is(2);
        x.tells(0, 5, 0).tells(1, 5, 1);
        x.last(0).is(0);
        x.last(1).is(1);
        x.comes(0, 0).is(1);
        x.tells(0, 5, 1);
        x.comes(0, 9).is(1);
        x.tells(1, 5, 0);
    }

    @Told(in = P12, says = "each whose NUMBER is IN RANGE presses the USE at the place, from 0 on, that is the NUMBER less "
        + "LEAST")
    static void aSlotInRangePressesTheUseAtItsPlace(Bench b) {
        Trial x = slots(b, 1, 10, 12, 50, 51, 52, 53, 54);
        x.comes(9).is(0);
        x.comes(10).is(1);
        x.tells(0, 50, 1);
        x.comes(12).is(2);
        x.tells(0, 50, 0).tells(0, 52, 1);
        // Though there is a USE for it.
        x.comes(13).is(1);
        x.tells(0, 52, 0);
        Trial y = slots(b, 2, -2, 1, 60, 61, 62, 63);
        y.comes(256 - 2, 1).is(2);
        y.tells(0, 60, 1).tells(0, 63, 1);
        y.comes(256 - 3, 2).is(2);
        y.tells(0, 60, 0).tells(0, 63, 0);
    }

    @Told(in = P12, says = "(as long as there are so many USES).")
    static void aSlotBehindAllUsesPressesNone(Bench b) {
        Trial x = slots(b, 1, 1, 100, 50, 51);
        x.comes(2).is(1);
        x.tells(0, 51, 1);
        x.comes(3).is(1);
        x.tells(0, 51, 0);
        x.last(0).is(0);
        x.comes(100).is(0);
        slots(b, 1, 0, 100).comes(0).is(0);
        // As many USES as there can be, and the number of the next one.
        Trial y = b.fresh().most(100).size(8).many(1).upto(31).in(SLOTS).use(70).in(SLOTS).reads(2);
        y.comes(32, 1).is(0);
        y.comes(31, 0).is(2);
        y.tells(0, 31, 1).tells(1, 70, 1);
        // NUMBER less LEAST above all numbers of 32 bits.
        Trial z = b.fresh().wide(1, 1, LOWEST).wide(1, 2, HIGHEST).size(31).many(1).use(5).in(SLOTS).reads(1);
        z.comes(255, 255, 255, 63).is(0);
        z.comes(0, 0, 0, 0).is(0);
        z.comes(0, 0, 0, 64).is(0);
    }

    @Told(in = P12, says = "For each USE that was PRESSED by SLOTS of this ITEM before, and that none presses now, by rising "
        + "USES, there is an EVENT: the first FIELD of these SLOTS, the USE, 0;")
    static void usesThatAreLetGoAreEventsByRisingUses(Bench b) {
        Trial x = b.fresh().most(99).size(8).many(1).in(VALUES).many(4).wide(2, 0, -1).use(7).use(300).use(0).in(SLOTS);
        x.reads(5).comes(0, 0, 1, 2, 3).is(4);
        for (int i = 0; i < 4; i++) x.next();
        x.comes(0, 99, 99, 99, 1).is(3);
        x.tells(1, 0, 0).tells(1, 300, 0).tells(1, HIGHEST, 0);
        x.comes(0, 99, 99, 99, 99).is(1);
        x.tells(1, 7, 0).tellsNoMore();
    }

    @Told(in = P12, says = "then for each that is pressed now, and was not PRESSED, by rising USES: that FIELD, the USE, 1.")
    static void usesThatArePressedAreEventsByRisingUsesThen(Bench b) {
        Trial x = b.fresh().most(99).size(8).many(1).in(VALUES).many(4).wide(2, 0, -1).use(7).use(300).use(0).use(9);
        x.in(SLOTS).reads(5).comes(0, 2, 99, 0, 1).is(3);
        x.tells(1, 7, 1).tells(1, 300, 1).tells(1, HIGHEST, 1);
        // Those that are let go are ahead of those that are pressed, whatever the USES; what stays is no EVENT.
        x.comes(0, 3, 2, 4, 99).is(4);
        x.tells(1, 7, 0).tells(1, HIGHEST, 0).tells(1, 0, 1).tells(1, 9, 1).tellsNoMore();
    }

    @Told(in = P12, says = "Those that are pressed now are the PRESSED ones then")
    static void whatIsPressedNowIsPressedThen(Bench b) {
        Trial x = slots(b, 2, 0, 99, 5, 6, 7);
        x.comes(0, 1).is(2);
        x.comes(0, 1).is(0);
        x.comes(1, 2).is(2);
        x.last(0).is(2);
        x.comes(99, 99).is(2);
        x.last(0).is(0);
        x.comes(99, 99).is(0);
        x.comes(1, 2).is(2);
    }

    @Told(in = P12, says = "(a USE that stands several times is one).")
    static void aUseThatStandsSeveralTimesIsOne(Bench b) {
        Trial x = slots(b, 3, 0, 99, 5, 6, 5, 5);
        x.comes(0, 2, 3).is(1);
        x.tells(0, 5, 1);
        x.last(0).is(1);
        x.comes(3, 99, 99).is(0);
        x.comes(99, 2, 1).is(1);
        x.tells(0, 6, 1);
        x.last(2).is(2);
        x.comes(99, 99, 99).is(2);
        x.tells(0, 5, 0).tells(0, 6, 0).tellsNoMore();
        // Two SLOTS at the same place, too.
        x.comes(1, 1, 1).is(1);
        x.last(0).is(1);
        // Whichever place it stands at first.
        Trial y = slots(b, 2, 0, 99, 4, 9, 9, 6, 9);
        y.comes(1, 4).is(1);
        y.tells(0, 9, 1);
        y.last(0).is(1);
        y.comes(2, 3).is(1);
        y.tells(0, 6, 1).tellsNoMore();
    }

    // Promise 13: event.

    @Told(in = P13, says = "Of the oldest EVENT: the FIELD (what = 0), the USE (1), the number (2);")
    static void eventIsOfTheOldestOne(Bench b) {
        Trial x = b.fresh().least(-9).most(9).size(8).many(2).use(4).use(8).in(VALUES).reads(2);
        x.comes(0, 256 - 3).is(1);
        x.comes(5, 6).is(2);
        for (int again = 0; again < 2; again++) {
            x.event(0).is(1);
            x.event(1).is(8);
            x.event(2).is(-3);
        }
        x.next();
        x.event(0).is(0);
        x.event(1).is(4);
        x.event(2).is(5);
    }

    @Told(in = P13, says = "NONE: there is none.")
    static void eventIsNoneWithoutAnEvent(Bench b) {
        for (int what = 0; what <= 2; what++) b.fresh().event(what).is(NONE);
        Trial x = value(b);
        x.comes(5).is(1);
        x.next().is(0);
        for (int what = 0; what <= 2; what++) x.event(what).is(NONE);
    }

    @Told(in = P13, says = "OUTSIDE.")
    static void eventIsOutsideBelow0AndAbove2(Bench b) {
        Trial x = value(b);
        x.comes(5).is(1);
        for (int what : new int[] {-1, 3, 4, LOWEST, HIGHEST}) {
            x.event(what).is(OUTSIDE);
            b.fresh().event(what).is(OUTSIDE);
        }
    }

    // Promise 14: next.

    @Told(in = P14, says = "The oldest EVENT goes: how many there are then;")
    static void nextTakesTheOldestEvent(Bench b) {
        Trial x = values(b, 3, VALUES, 0, 100);
        x.comes(7, 8, 9).is(3);
        x.event(2).is(7);
        x.next().is(2);
        x.event(2).is(8);
        x.next().is(1);
        x.event(2).is(9);
        x.next().is(0);
        x.count(2).is(0);
    }

    @Told(in = P14, says = "NONE: there was none.")
    static void nextIsNoneWithoutAnEvent(Bench b) {
        b.fresh().next().is(NONE);
        Trial x = value(b);
        x.next().is(NONE);
        x.comes(5).is(1);
        x.next().is(0);
        x.next().is(NONE);
        x.next().is(NONE);
        x.count(2).is(0);
    }

    // Promise 15: last.

    @Told(in = P15, says = "The LAST NUMBER of a VALUE;")
    static void lastIsTheLastNumberOfAValue(Bench b) {
        Trial x = b.fresh().least(-9).most(9).size(8).many(2).in(VALUES).in(STEPS).reads(4);
        for (int f = 0; f < 4; f++) x.last(f).is(0);
        x.comes(256 - 9, 9, 3, 0).is(3);
        int[] last = {-9, 9, 3, 0};
        for (int f = 0; f < 4; f++) x.last(f).is(last[f]);
        while (x.count(2).got() > 0) x.next();
        x.last(0).is(-9);
    }

    @Told(in = P15, says = "how many USES of its ITEM are PRESSED, of a SLOT")
    static void lastIsHowManyUsesArePressedOfASlot(Bench b) {
        Trial x = b.fresh().most(99).size(8).many(3).upto(31).in(SLOTS).many(1).use(5).in(SLOTS).reads(4);
        x.last(0).is(0);
        x.comes(4, 31, 4, 99).is(2);
        for (int f = 0; f < 3; f++) x.last(f).is(2);
        x.last(3).is(0);
        x.comes(99, 0, 99, 0).is(4);
        for (int f = 0; f < 4; f++) x.last(f).is(1);
        Trial y = b.fresh().most(31).size(5).many(32).upto(31).in(SLOTS).reads(32);
        int[] all = new int[20];
        for (int bit = 0; bit < 160; bit++) all[bit / 8] |= (bit / 5 >> bit % 5 & 1) << bit % 8;
        y.comes(all).is(32);
        y.last(31).is(32);
    }

    @Told(in = P15, says = "(0 of WAYS 1 and 2, of which no LETTER comes).")
    static void lastIs0OfWays1And2(Bench b) {
        Trial x = b.fresh().most(9).size(8).many(1).in(VALUES).use(5).in(SLOTS).out(VALUES).use(5).out(SLOTS);
        x.both(VALUES).use(5).both(SLOTS).reads(6);
        x.want(2, 7).is(0);
        x.want(4, 7).is(0);
        x.comes(6, 0).is(2);
        x.last(0).is(6);
        x.last(1).is(1);
        for (int f = 2; f < 6; f++) x.last(f).is(0);
    }

    @Told(in = P15, says = "UNKNOWN.")
    static void lastIsUnknownWithoutSuchAField(Bench b) {
        b.fresh().last(0).is(UNKNOWN);
        Trial x = values(b, 2, VALUES, 0, 9);
        x.last(1).is(0);
        for (int f : new int[] {-1, 2, 48, LOWEST, HIGHEST}) x.last(f).is(UNKNOWN);
    }
}
