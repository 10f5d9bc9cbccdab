/** Terms 1: BYTES, THE PROGRAM and its ITEMS. */
final class ItemSentences implements Codes {
    private static final String SIX_NUMBERS =
        "TAG 0: PAGE is N; 1: LEAST is Z; 2: MOST is Z; 7: SIZE is N; 8: ID is N; 9: MANY is N;";
    private static final String FORGOTTEN = "Behind each ITEM of SORT 0 no USES are told, FIRST is 0.";

    private ItemSentences() {}

    /** SIZE and MANY are 1, so that an ITEM of FIELDS makes one FIELD of one BIT. */
    private static Trial single(Bench b) {
        return b.fresh().size(1).many(1);
    }

    /** So many BYTES more are told by b modulo 4. */
    private static int code(int more) {
        return more == 4 ? 3 : more;
    }

    @Told(in = "Terms", says = "BYTES are 0 to 255.")
    static void bytesAre0To255(Bench b) {
        Trial x = b.fresh();
        x.say(0).is(1);
        x.say(255).is(2);
        x.say(-1).is(OUTSIDE);
        x.say(256).is(OUTSIDE);
        x.put(0).is(1);
        x.put(255).is(2);
        x.put(-1).is(OUTSIDE);
        x.put(256).is(OUTSIDE);
    }

    @Told(in = "Terms", says = "THE PROGRAM has up to 96 BYTES.")
    static void theProgramHasUpTo96Bytes(Bench b) {
        Trial x = single(b).fill(95);
        x.say(128).is(96);
        x.say(128).is(FULL);
        x.fault(2).is(94);
        x.written(93, 0).is('i');
        x.reads(1);
    }

    @Told(in = "Terms", says = "an ITEM is one BYTE b, and 0, 1, 2 or 4 BYTES more, if b modulo 4 is 0, 1, 2, 3.")
    static void anItemHasAsManyBytesAsItsFirstOneTells(Bench b) {
        Trial x = b.fresh().says(4, 4 + 1, 9, 4 + 2, 9, 9, 4 + 3, 9, 9, 9, 9, 8);
        x.fault(2).is(5);
        x.writes(4, "use");
        for (int more : new int[] {0, 1, 2, 4}) {
            Trial y = b.fresh().says(4 + code(more));
            for (int i = 0; i < more; i++) {
                y.fault(2).is(0);
                y.say(12);
            }
            y.fault(2).is(1);
            y.hasNoFault();
        }
    }

    @Told(in = "Terms", says = "Its SORT is b by 4, cut, modulo 4; its TAG b by 16, cut.")
    static void sortAndTagAreToldByTheFirstByte(Bench b) {
        int[] firsts = {127, 128, 129, 143, 144, 191, 192, 208, 4, 20, 36, 116, 180, 8, 24, 40, 56, 12, 28};
        String[] words = {"what", "in", "in", "what", "out", "what", "end", "what", "page", "least", "most", "size",
            "pop", "use", "first", "upto", "what", "what", "what"};
        for (int i = 0; i < firsts.length; i++) {
            Trial x = b.fresh().says(firsts[i], 0, 0, 0, 0);
            for (int k = 0; k < words[i].length(); k++) x.written(0, k).is(words[i].charAt(k));
        }
    }

    private static void pageIs(Bench b, int due, int... bytes) {
        single(b).page(9).says(4 + code(bytes.length)).says(bytes).out(VALUES).reads(1).field(0, 8).is(due);
    }

    @Told(in = "Terms", says = "Its N is what its further BYTES tell, the first one lowest, as a number not below 0")
    static void nIsTheFurtherBytesFirstOneLowest(Bench b) {
        pageIs(b, 0, 0);
        pageIs(b, 127, 127);
        pageIs(b, 128, 128);
        pageIs(b, 255, 255);
        pageIs(b, 1, 1, 0);
        pageIs(b, 256, 0, 1);
        pageIs(b, 32768, 0, 128);
        pageIs(b, 65535, 255, 255);
        pageIs(b, 0x04030201, 1, 2, 3, 4);
    }

    @Told(in = "Terms", says = "(0, if there are none; of four BYTES")
    static void nIs0WithoutFurtherBytes(Bench b) {
        pageIs(b, 0);
    }

    @Told(in = "Terms", says = "of four BYTES modulo 2147483648: the highest bit is left out")
    static void nOfFourBytesLeavesTheHighestBitOut(Bench b) {
        pageIs(b, HIGHEST, 255, 255, 255, 127);
        pageIs(b, 0, 0, 0, 0, 128);
        pageIs(b, 1, 1, 0, 0, 128);
        pageIs(b, HIGHEST, 255, 255, 255, 255);
    }

    private static void leastAndMostAre(Bench b, int due, int... bytes) {
        int code = code(bytes.length);
        Trial x = single(b).says(16 + 4 + code).says(bytes).says(32 + 4 + code).says(bytes).out(VALUES).reads(1);
        x.field(0, 4).is(due);
        x.field(0, 5).is(due);
    }

    @Told(in = "Terms", says = "its Z is the same BYTES as a number in two's complement of just so many bits")
    static void zIsInTwosComplementOfJustSoManyBits(Bench b) {
        leastAndMostAre(b, 127, 127);
        leastAndMostAre(b, -128, 128);
        leastAndMostAre(b, -1, 255);
        leastAndMostAre(b, 255, 255, 0);
        leastAndMostAre(b, 32767, 255, 127);
        leastAndMostAre(b, -32768, 0, 128);
        leastAndMostAre(b, -1, 255, 255);
        leastAndMostAre(b, 65535, 255, 255, 0, 0);
        leastAndMostAre(b, HIGHEST, 255, 255, 255, 127);
        leastAndMostAre(b, LOWEST, 0, 0, 0, 128);
        leastAndMostAre(b, -1, 255, 255, 255, 255);
    }

    @Told(in = "Terms", says = "its Z is the same BYTES as a number in two's complement of just so many bits "
        + "(0, if there are none).")
    static void zIs0WithoutFurtherBytes(Bench b) {
        Trial x = single(b).least(-5).most(5).says(16 + 4).says(32 + 4).out(VALUES).reads(1);
        x.field(0, 4).is(0);
        x.field(0, 5).is(0);
    }

    // SORT 1.

    @Told(in = "Terms", says = "SORT 1 sets a number, for all ITEMS behind it.")
    static void aNumberIsSetForAllItemsBehind(Bench b) {
        Trial x = single(b).out(VALUES).page(5).out(VALUES).use(3).begin(0).end().out(VALUES).page(6).out(VALUES);
        x.reads(4);
        int[] pages = {0, 5, 5, 6};
        for (int f = 0; f < 4; f++) x.field(f, 8).is(pages[f]);
    }

    @Told(in = "Terms", says = SIX_NUMBERS)
    static void tag0SetsPageToN(Bench b) {
        single(b).says(4 + 1, 255).out(VALUES).reads(1).hasField(0, 1, 0, 0, 1, 0, 0, 0, 0, 255);
    }

    @Told(in = "Terms", says = SIX_NUMBERS)
    static void tag1SetsLeastToZ(Bench b) {
        single(b).says(16 + 4 + 1, 255).out(VALUES).reads(1).hasField(0, 1, 0, 0, 1, -1, 0, 0, 0, 0);
    }

    @Told(in = "Terms", says = SIX_NUMBERS)
    static void tag2SetsMostToZ(Bench b) {
        single(b).least(-9).says(32 + 4 + 1, 255).out(VALUES).reads(1).hasField(0, 1, 0, 0, 1, -9, -1, 0, 0, 0);
    }

    @Told(in = "Terms", says = SIX_NUMBERS)
    static void tag7SetsSizeToN(Bench b) {
        single(b).says(7 * 16 + 4 + 3, 31, 0, 0, 128).out(VALUES).reads(1).hasField(0, 1, 0, 0, 31, 0, 0, 0, 0, 0);
    }

    @Told(in = "Terms", says = SIX_NUMBERS)
    static void tag8SetsIdToN(Bench b) {
        single(b).says(8 * 16 + 4 + 3, 15, 0, 0, 128).out(VALUES).reads(1).hasField(0, 1, 15, 0, 1, 0, 0, 0, 0, 0);
    }

    @Told(in = "Terms", says = SIX_NUMBERS)
    static void tag9SetsManyToN(Bench b) {
        single(b).says(9 * 16 + 4 + 3, 40, 0, 0, 128).out(VALUES).reads(40).hasField(39, 1, 0, 39, 1, 0, 0, 0, 0, 0);
    }

    /** All six are others than with another n: PAGE 40 and n, LEAST 60 and n, MOST 90 and n, SIZE, ID, MANY. */
    private static Trial six(Trial x, int n) {
        return x.page(40 + n).least(60 + n).most(90 + n).size(2 * n).id(10 + n).many(n);
    }

    /** The FIELDS from f on are n, with these six. */
    private static void hasSix(Trial x, int f, int way, int n) {
        int size = 2 * n;
        for (int k = 0; k < n; k++) x.hasField(f + k, way, 10 + n, k * size, size, 60 + n, 90 + n, 0, 0, 40 + n);
        x.length(way, 10 + n).is(n * size);
    }

    @Told(in = "Terms", says = "10: all six are put on THE STACK;")
    static void pushKeepsAllSixAsTheyAre(Bench b) {
        Trial x = six(b.fresh(), 2).push().out(VALUES);
        six(x, 3).pop().both(VALUES).reads(4);
        hasSix(x, 0, 1, 2);
        hasSix(x, 2, 2, 2);
    }

    @Told(in = "Terms", says = "11: all six are what they were when they were put there last, "
        + "and that goes from THE STACK;")
    static void popBringsTheLastOnesBackAndTakesThemOff(Bench b) {
        Trial x = six(b.fresh(), 1).push();
        six(x, 2).push();
        six(x, 3).out(VALUES).pop().out(VALUES).pop().out(VALUES).reads(6);
        hasSix(x, 0, 1, 3);
        hasSix(x, 3, 1, 2);
        hasSix(x, 5, 1, 1);
        x.pop().fault(0).is(7);
    }

    @Told(in = "Terms", says = "and that goes from THE STACK; other TAGS: nothing.")
    static void otherTagsOfSort1DoNothing(Bench b) {
        for (int tag : new int[] {3, 4, 5, 6, 12, 13, 14, 15}) {
            Trial x = six(b.fresh(), 2).use(77);
            x.item(1, tag, 50);
            x.out(VALUES).hasNoFault();
            x.reads(2);
            hasSix(x, 0, 1, 2);
            x.field(0, 10).is(77);
        }
    }

    @Told(in = "Terms", says = "At first all six are 0")
    static void atFirstAllSixAre0(Bench b) {
        Trial x = single(b).out(VALUES).reads(1);
        x.hasField(0, 1, 0, 0, 1, 0, 0, 0, 0, 0);
        b.fresh().many(1).out(NO_FIELDS).fault(0).is(11);
        b.fresh().size(1).out(NO_FIELDS).fault(0).is(11);
        // Whatever a program that was read before has set.
        Trial y = six(b.fresh(), 5).out(VALUES).reads(5);
        y.wipe();
        y.size(1).many(1).out(VALUES).reads(1).hasField(0, 1, 0, 0, 1, 0, 0, 0, 0, 0);
        y.wipe();
        y.many(1).out(NO_FIELDS).fault(0).is(11);
        y.wipe();
        y.size(1).out(NO_FIELDS).fault(0).is(11);
    }

    @Told(in = "Terms", says = "THE STACK is empty.")
    static void atFirstTheStackIsEmpty(Bench b) {
        b.fresh().pop().fault(0).is(7);
        Trial x = b.fresh().push().push().reads(0);
        x.wipe();
        x.pop().fault(0).is(7);
        x.wipe();
        x.push().push().push().push().fault(0).is(0);
    }

    // SORT 2.

    @Told(in = "Terms", says = "SORT 2 tells USES, for the next ITEM of SORT 0.")
    static void usesAreForTheNextItemOfSort0(Bench b) {
        Trial x = single(b).use(5).page(1).push().pop().out(VALUES).out(VALUES).out(SLOTS).reads(3);
        x.field(0, 10).is(5);
        x.field(1, 10).is(0);
        x.field(2, 9).is(0);
    }

    @Told(in = "Terms", says = "TAG 0: the USE N is one more, behind those told so far;")
    static void tag0OfSort2TellsOneUseMore(Bench b) {
        Trial x = b.fresh().size(1).many(4).use(9).use(4).use(0).use(9).out(VALUES).out(SLOTS).use(0).out(SLOTS);
        x.reads(12);
        int[] uses = {9, 4, 0, 9};
        for (int f = 0; f < 4; f++) x.field(f, 10).is(uses[f]);
        x.field(4, 9).is(0);
        x.field(8, 9).is(1);
    }

    @Told(in = "Terms", says = "1: FIRST is N;")
    static void tag1OfSort2SetsFirst(Bench b) {
        Trial x = single(b).first(200).out(SLOTS).first(3).first(200).upto(201).out(SLOTS);
        x.reads(2);
        x.field(0, 9).is(0);
        x.field(1, 9).is(2);
        x.field(1, 10).is(200);
    }

    @Told(in = "Terms", says = "2: all USES from FIRST to N, rising, are more")
    static void tag2OfSort2TellsAllFromFirstToN(Bench b) {
        Trial x = b.fresh().size(1).many(6).use(50).first(6).upto(8).upto(7).out(VALUES).many(1).upto(0).out(SLOTS);
        x.reads(7);
        int[] uses = {50, 6, 7, 8, 6, 7};
        for (int f = 0; f < 6; f++) x.field(f, 10).is(uses[f]);
        x.field(6, 9).is(1);
        x.field(6, 10).is(0);
        // At the end of all numbers.
        single(b).wide(2, 1, HIGHEST).wide(2, 2, HIGHEST).out(SLOTS).reads(1).field(0, 9).is(1);
    }

    @Told(in = "Terms", says = "(none, if N is less)")
    static void tag2OfSort2TellsNoneIfNIsLess(Bench b) {
        Trial x = single(b).first(6).upto(5).out(SLOTS).first(6).upto(6).out(SLOTS).first(6).upto(0).out(SLOTS);
        x.wide(2, 1, HIGHEST).upto(0).out(SLOTS).reads(4);
        int[] many = {0, 1, 0, 0};
        for (int f = 0; f < 4; f++) x.field(f, 9).is(many[f]);
    }

    @Told(in = "Terms", says = "(none, if N is less); other TAGS: nothing.")
    static void otherTagsOfSort2DoNothing(Bench b) {
        for (int tag = 3; tag <= 15; tag++) {
            Trial x = single(b).use(7).first(2);
            x.item(2, tag, 50);
            x.upto(3).out(SLOTS).hasNoFault();
            x.reads(1);
            x.field(0, 9).is(3);
            x.field(0, 10).is(7);
            x.field(0, 8).is(0);
        }
    }

    // SORT 0.

    @Told(in = "Terms", says = "SORT 0: TAG 8 IN, 9 OUT, 11 BOTH: FIELDS (see 2);")
    static void tags8And9And11MakeFields(Bench b) {
        Trial x = single(b).in(VALUES).out(VALUES).both(VALUES).reads(3);
        for (int f = 0; f < 3; f++) x.field(f, 0).is(f);
    }

    @Told(in = "Terms", says = "10: a GROUP begins, within the one that was begun last and is not ended;")
    static void tag10BeginsAGroupWithinTheOneThatIsNotEnded(Bench b) {
        Trial x = b.fresh().begin(0).begin(0).end().begin(0).begin(0).end().end().end().begin(0).end().reads(0);
        int[] within = {NONE, 0, 0, 2, NONE};
        for (int g = 0; g < 5; g++) x.group(g, 2).is(within[g]);
    }

    @Told(in = "Terms", says = "12: that GROUP is ended.")
    static void tag12EndsThatGroup(Bench b) {
        Trial x = single(b).begin(0).begin(0).out(VALUES).end().out(VALUES).end().out(VALUES).reads(3);
        int[] of = {1, 0, NONE};
        for (int f = 0; f < 3; f++) x.field(f, 11).is(of[f]);
    }

    /** Each kind of ITEM of SORT 0: a TAG and N. */
    private static final int[][] OF_SORT_0 =
        {{8, VALUES}, {9, SLOTS}, {11, STEPS}, {8, NO_FIELDS}, {9, NO_FIELDS}, {11, NO_FIELDS}, {10, 0}, {12, 0}};

    /** Behind what was told, an ITEM of SORT 0 within a GROUP; then what is told now, and SLOTS. */
    private static void slotsBehind(Trial x, int[] item, int upto, int dueUses) {
        x.item(0, item[0], item[1]);
        if (upto >= 0) x.upto(upto);
        x.both(SLOTS);
        if (item[0] == 10) x.end();
        if (item[0] != 12) x.end();
        int fields = x.read().got();
        x.field(fields - 1, 9).is(dueUses);
        x.field(fields - 1, 10).is(0);
    }

    @Told(in = "Terms", says = FORGOTTEN)
    static void behindEachItemOfSort0NoUsesAreTold(Bench b) {
        for (int[] item : OF_SORT_0) slotsBehind(single(b).begin(0).use(5), item, -1, 0);
    }

    @Told(in = "Terms", says = FORGOTTEN)
    static void behindEachItemOfSort0FirstIs0(Bench b) {
        for (int[] item : OF_SORT_0) slotsBehind(single(b).begin(0).first(5), item, 5, 6);
    }
}
