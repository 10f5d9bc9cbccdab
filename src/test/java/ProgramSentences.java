/** Promises 1 to 7: a new object, and the program. */
final class ProgramSentences implements Codes {
    private static final String P1 = "Promise 1", P2 = "Promise 2", P3 = "Promise 3", P4 = "Promise 4";
    private static final String P5 = "Promise 5", P6 = "Promise 6", P7 = "Promise 7";

    private ProgramSentences() {}

    private static Trial single(Bench b) {
        return b.fresh().size(1).many(1);
    }

    // Promise 1: a new object.

    /** Another object was used ahead of the new one, so that nothing may be shared. */
    private static Trial freshBehindAnother(Bench b) {
        Trial other = b.fresh().most(9).size(8).many(2).begin(0).in(VALUES).end().reads(2).puts(1, 2);
        other.come().is(2);
        other.image(0).is(1);
        other.image(1).is(1);
        other.end().read().is(FAULT);
        return b.fresh();
    }

    @Told(in = P1, says = "THE PROGRAM is empty;")
    static void ofANewObjectTheProgramIsEmpty(Bench b) {
        Trial x = freshBehindAnother(b);
        x.count(3).is(0);
        x.fault(2).is(0);
        x.written(0, -1).is(NONE);
        x.hasNoFault();
        x.wipe().is(0);
    }

    @Told(in = P1, says = "no FIELD, no GROUP;")
    static void aNewObjectHasNoFieldAndNoGroup(Bench b) {
        Trial x = freshBehindAnother(b);
        x.count(0).is(0);
        x.count(1).is(0);
        x.field(0, 0).is(UNKNOWN);
        x.last(0).is(UNKNOWN);
        x.want(0, 0).is(UNKNOWN);
        x.group(0, 0).is(NONE);
        x.comes(0).is(NO);
        x.made(1, 0, -1).is(NONE);
    }

    @Told(in = P1, says = "no FAULT was told;")
    static void ofANewObjectNoFaultWasTold(Bench b) {
        freshBehindAnother(b).count(6).is(0);
    }

    @Told(in = P1, says = "no IMAGE is kept.")
    static void ofANewObjectNoImageIsKept(Bench b) {
        Trial x = freshBehindAnother(b);
        x.count(7).is(0);
        x.restore(0).is(STATE);
        x.restore(1).is(STATE);
    }

    // Promise 2: say.

    @Told(in = P2, says = "A BYTE more: how many THE PROGRAM has.")
    static void sayAnswersHowManyBytesThereAre(Bench b) {
        Trial x = b.fresh();
        for (int n = 1; n <= 96; n++) x.say(n + 100).is(n);
        x.count(3).is(96);
    }

    @Told(in = P2, says = "OUTSIDE; FULL")
    static void sayIsOutsideBelow0AndAbove255(Bench b) {
        Trial x = b.fresh();
        for (int n : new int[] {-1, 256, 257, -256, LOWEST, HIGHEST}) x.say(n).is(OUTSIDE);
        x.say(0).is(1);
        x.say(255).is(2);
    }

    @Told(in = P2, says = "FULL: it has 96.")
    static void sayIsFullAt96(Bench b) {
        Trial x = b.fresh().fill(95);
        x.say(0).is(96);
        x.say(0).is(FULL);
        x.say(255).is(FULL);
        x.wipe().is(96);
        x.say(0).is(1);
    }

    // Promise 3: wipe.

    @Told(in = P3, says = "THE PROGRAM is empty: how many BYTES it had.")
    static void wipeEmptiesAndAnswersHowManyThereWere(Bench b) {
        Trial x = b.fresh();
        x.wipe().is(0);
        x.fill(1).wipe().is(1);
        x.fill(96).wipe().is(96);
        x.count(3).is(0);
        x.fault(2).is(0);
        x.written(0, -1).is(NONE);
        x.wipe().is(0);
    }

    @Told(in = P3, says = "(FIELDS stay.)")
    static void behindWipeFieldsStay(Bench b) {
        Trial x = b.fresh().most(9).size(8).many(1).begin(4).in(VALUES).out(VALUES).end().reads(2);
        x.comes(7).is(1);
        x.wipe();
        x.count(0).is(2);
        x.hasField(0, 0, 0, 0, 8, 0, 9, 0, 0, 0, 1, 0, 0);
        x.group(0, 0).is(4);
        x.length(0, 0).is(8);
        x.last(0).is(7);
        x.count(2).is(1);
        x.comes(8).is(1);
        x.want(1, 3).is(0);
        x.made(1, 0, 0).is(3);
    }

    // Promise 4: item.

    @Told(in = P4, says = "An ITEM of a SORT (0 to 2)")
    static void itemTakesTheSorts0To2(Bench b) {
        Trial x = b.fresh();
        x.item(0, 8, 0).is(1);
        x.item(1, 8, 0).is(2);
        x.item(2, 1, 0).is(3);
        x.writes(0, "in");
        x.writes(1, "id");
        x.writes(2, "first");
        for (int sort : new int[] {-1, 3, 4, LOWEST, HIGHEST}) x.item(sort, 8, 0).is(OUTSIDE);
    }

    @Told(in = P4, says = "a TAG (0 to 15)")
    static void itemTakesTheTags0To15(Bench b) {
        Trial x = b.fresh();
        x.item(1, 0, 0).is(1);
        x.item(1, 11, 0).is(2);
        x.item(2, 15, 0).is(3);
        x.writes(0, "page");
        x.writes(1, "pop");
        x.writes(2, "what");
        for (int tag : new int[] {-1, 16, 17, LOWEST, HIGHEST}) x.item(1, tag, 0).is(OUTSIDE);
    }

    @Told(in = P4, says = "a number n (-32768 to 32767)")
    static void itemTakesNumbersOf16Bits(Bench b) {
        Trial x = b.fresh();
        x.item(1, 1, -32768).is(3);
        x.item(1, 1, 32767).is(6);
        x.writes(0, "least -32768");
        x.writes(1, "least 32767");
        for (int n : new int[] {-32769, 32768, 65535, LOWEST, HIGHEST}) x.item(1, 1, n).is(OUTSIDE);
    }

    @Told(in = P4, says = "comes behind THE PROGRAM")
    static void itemComesBehindTheProgram(Bench b) {
        Trial x = b.fresh().says(4 + 1, 7);
        x.item(1, 1, -3).is(4);
        x.item(2, 2, 300).is(7);
        x.writes(0, "page 7");
        x.writes(1, "least -3");
        x.writes(2, "upto 300");
    }

    @Told(in = P4, says = "with no further BYTE, if n is 0;")
    static void itemOf0HasNoFurtherByte(Bench b) {
        Trial x = b.fresh();
        x.item(1, 1, 0).is(1);
        x.item(2, 0, 0).is(2);
        x.fault(2).is(2);
        x.writes(0, "least");
        x.writes(1, "use");
    }

    @Told(in = P4, says = "with one, if n is -128 to 127;")
    static void itemOfMinus128To127HasOneFurtherByte(Bench b) {
        int[] numbers = {-128, -127, -1, 1, 126, 127};
        Trial x = b.fresh();
        for (int i = 0; i < numbers.length; i++) {
            x.item(1, 1, numbers[i]).is(2 * i + 2);
            x.writes(i, "least " + numbers[i]);
        }
        x.fault(2).is(numbers.length);
    }

    @Told(in = P4, says = "else with two;")
    static void itemOfAllOtherNumbersHasTwoFurtherBytes(Bench b) {
        int[] numbers = {-129, 128, -130, 129, 255, 256, -256, -257, 32767, -32768};
        Trial x = b.fresh();
        for (int i = 0; i < numbers.length; i++) {
            x.item(1, 1, numbers[i]).is(3 * i + 3);
            x.writes(i, "least " + numbers[i]);
        }
        x.fault(2).is(numbers.length);
    }

    @Told(in = P4, says = "n in two's complement of so many bits")
    static void itemHasItsNumberInTwosComplement(Bench b) {
        int[] numbers = {-1, -128, -129, -32768, 127, 128, 32767};
        int[] n = {255, 128, 65407, 32768, 127, 128, 32767};
        Trial x = b.fresh();
        for (int i = 0; i < numbers.length; i++) {
            x.item(1, 0, numbers[i]);
            x.writes(i, "page " + n[i]);
        }
    }

    @Told(in = P4, says = "how many BYTES THE PROGRAM has.")
    static void itemAnswersHowManyBytesThereAre(Bench b) {
        Trial x = b.fresh();
        x.item(1, 0, 0).is(1);
        x.item(1, 0, 5).is(3);
        x.item(1, 0, 500).is(6);
        x.fill(93).item(1, 0, 500).is(96);
        x.count(3).is(96);
    }

    @Told(in = P4, says = "OUTSIDE: all three;")
    static void itemIsOutsideByEachOfTheThree(Bench b) {
        Trial x = b.fresh();
        x.item(3, 15, 1).is(OUTSIDE);
        x.item(2, 16, 1).is(OUTSIDE);
        x.item(2, 15, 32768).is(OUTSIDE);
        x.item(-1, 0, 1).is(OUTSIDE);
        x.item(0, -1, 1).is(OUTSIDE);
        x.item(0, 0, -32769).is(OUTSIDE);
        x.item(-1, -1, -32769).is(OUTSIDE);
    }

    @Told(in = P4, says = "FULL: THE PROGRAM would have more than 96.")
    static void itemIsFullAbove96(Bench b) {
        int[] numbers = {0, 5, 500};
        for (int more = 0; more <= 2; more++) {
            b.fresh().fill(95 - more).item(1, 0, numbers[more]).is(96);
            for (int had = 96 - more; had <= 96; had++) b.fresh().fill(had).item(1, 0, numbers[more]).is(FULL);
        }
    }

    // Promise 5: read.

    @Told(in = P5, says = "FIELDS, GROUPS are those that it makes;")
    static void behindReadFieldsAndGroupsAreThoseOfTheProgram(Bench b) {
        Trial x = b.fresh().size(4).many(3).begin(5).in(VALUES).begin(6).end().end().reads(3);
        x.count(1).is(2);
        x.wipe();
        x.count(0).is(3);
        x.size(2).many(1).use(9).begin(8).out(SLOTS).end().reads(1);
        x.count(0).is(1);
        x.count(1).is(1);
        x.hasField(0, 1, 0, 0, 2, 0, 0, 1, 0, 0, 0, 0, 0);
        x.field(1, 0).is(UNKNOWN);
        x.group(0, 0).is(8);
        x.group(0, 1).is(9);
        x.group(1, 0).is(NONE);
        x.length(0, 0).is(0);
        x.length(1, 0).is(2);
        // However often it is read.
        Trial y = b.fresh().most(31).size(8).many(1).upto(31).in(SLOTS);
        for (int again = 0; again < 50; again++) y.reads(1);
        y.comes(31).is(1);
        y.tells(0, 31, 1);
    }

    /** A VALUE and a SLOT of WAY 0, a VALUE of WAY 1, of eight BITS each, 0 to 9. */
    private static Trial mixed(Bench b) {
        return b.fresh().most(9).size(8).many(1).in(VALUES).use(3).in(SLOTS).out(VALUES).reads(3);
    }

    @Told(in = P5, says = "all LAST NUMBERS are 0")
    static void behindReadAllLastNumbersAre0(Bench b) {
        Trial x = mixed(b);
        x.comes(7, 9).is(1);
        x.last(0).is(7);
        x.reads(3).last(0).is(0);
        x.comes(0, 9).is(0);
        x.comes(7, 9).is(1);
    }

    @Told(in = P5, says = "nothing is PRESSED")
    static void behindReadNothingIsPressed(Bench b) {
        Trial x = mixed(b);
        x.comes(0, 0).is(1);
        x.last(1).is(1);
        x.reads(3).last(1).is(0);
        x.comes(0, 9).is(0);
        x.comes(0, 0).is(1);
        x.tells(1, 3, 1);
    }

    @Told(in = P5, says = "there are no EVENTS")
    static void behindReadThereAreNoEvents(Bench b) {
        Trial x = mixed(b);
        x.comes(7, 0).is(2);
        x.reads(3).count(2).is(0);
        x.event(0).is(NONE);
        x.next().is(NONE);
    }

    @Told(in = P5, says = "THE LETTER is empty")
    static void behindReadTheLetterIsEmpty(Bench b) {
        Trial x = mixed(b).puts(7);
        x.reads(3).count(4).is(0);
        x.put(0).is(1);
        x.put(9).is(2);
        x.come().is(0);
    }

    @Told(in = P5, says = "all that VALUES are to be is 0")
    static void behindReadAllThatValuesAreToBeIs0(Bench b) {
        Trial x = mixed(b);
        x.want(2, 7).is(0);
        x.reads(3).made(1, 0, 0).is(0);
        x.want(2, 5).is(0);
    }

    @Told(in = P5, says = "how many FIELDS there are.")
    static void readAnswersHowManyFieldsThereAre(Bench b) {
        b.fresh().read().is(0);
        b.fresh().begin(0).end().read().is(0);
        single(b).in(NO_FIELDS).read().is(0);
        single(b).in(VALUES).read().is(1);
        b.fresh().size(1).many(24).in(VALUES).out(SLOTS).read().is(48);
    }

    @Told(in = P5, says = "THE PROGRAM stays.")
    static void behindReadTheProgramStays(Bench b) {
        Trial x = single(b).in(VALUES).reads(1);
        x.count(3).is(6);
        x.writes(0, "size 1");
        x.writes(2, "in 2");
        x.out(VALUES).reads(2);
        x.end().read().is(FAULT);
        x.count(3).is(9);
        x.writes(4, "end");
    }

    @Told(in = P5, says = "FAULT (FIELDS and all that stay as they were).")
    static void behindAFaultAllStaysAsItWas(Bench b) {
        Trial x = mixed(b);
        x.comes(7, 0).is(2);
        x.want(2, 5).is(0);
        x.puts(8).begin(0).many(5).in(VALUES).read().is(FAULT);
        int[] counts = {3, 0, 2, 18, 1, 1, 15, 0};
        for (int what = 0; what <= 7; what++) x.count(what).is(counts[what]);
        x.field(0, 5).is(9);
        x.length(0, 0).is(16);
        x.last(0).is(7);
        x.last(1).is(1);
        x.made(1, 0, 0).is(5);
        x.comes(9).is(2);
        x.tells(0, 0, 7).tells(1, 3, 1).tells(0, 0, 8).tells(1, 3, 0).tellsNoMore();
    }

    // Promise 6: fault.

    @Told(in = P6, says = "Of THE PROGRAM as it is:")
    static void faultIsOfTheProgramAsItIs(Bench b) {
        Trial x = b.fresh().begin(0);
        x.fault(0).is(15);
        x.end().fault(0).is(0);
        x.reads(0).end().fault(0).is(10);
        x.count(6).is(0);
        x.wipe();
        x.fault(0).is(0);
        x.fault(1).is(NONE);
        x.fault(2).is(0);
    }

    @Told(in = P6, says = "the number of THE FAULT (what = 0; 0: there is none)")
    static void fault0IsTheNumberOr0(Bench b) {
        b.fresh().fault(0).is(0);
        single(b).in(VALUES).fault(0).is(0);
        b.fresh().says(7).fault(0).is(1);
        single(b).in(VALUES).id(1).in(VALUES).fault(0).is(16);
    }

    @Told(in = P6, says = "its place (1; NONE: there is none)")
    static void fault1IsThePlaceOrNone(Bench b) {
        b.fresh().fault(1).is(NONE);
        single(b).in(VALUES).fault(1).is(NONE);
        b.fresh().end().fault(1).is(0);
        b.fresh().fill(95).end().fault(1).is(95);
        b.fresh().begin(0).fill(96).fault(1).is(96);
    }

    @Told(in = P6, says = "how many ITEMS there are that have all their BYTES, from the first one on, "
        + "up to one that has not (2).")
    static void fault2IsHowManyItemsHaveAllTheirBytes(Bench b) {
        b.fresh().fault(2).is(0);
        b.fresh().says(5).fault(2).is(0);
        b.fresh().says(5, 5).fault(2).is(1);
        b.fresh().says(4, 7, 4, 4, 4).fault(2).is(1);
        b.fresh().says(4, 7, 4, 4, 4, 4).fault(2).is(2);
        b.fresh().fill(96).fault(2).is(96);
        b.fresh().fill(95).says(5).fault(2).is(95);
        // Whatever else is wrong with them.
        b.fresh().end().pop().says(12, 0, 4).fault(2).is(5);
    }

    @Told(in = P6, says = "OUTSIDE.")
    static void faultIsOutsideBelow0AndAbove2(Bench b) {
        for (int what : new int[] {-1, 3, LOWEST, HIGHEST}) {
            b.fresh().fault(what).is(OUTSIDE);
            b.fresh().end().fault(what).is(OUTSIDE);
        }
    }

    // Promise 7: written.

    private static void wordIs(Bench b, int sort, int tag, String word) {
        b.fresh().says(tag * 16 + sort * 4).writes(0, word);
    }

    @Told(in = P7, says = "Sign k, from 0 on, of the i-th ITEM that has all its BYTES, from 0 on, written out")
    static void writtenCountsItemsAndSignsFrom0(Bench b) {
        Trial x = b.fresh().page(12).end().most(-3);
        x.writes(0, "page 12");
        x.writes(1, "end");
        x.writes(2, "most -3");
        Trial y = b.fresh().fill(95).end();
        y.writes(95, "end");
        y.writes(0, "what");
    }

    @Told(in = P7, says = "SORT 0: 8 in, 9 out, 11 both, 10 group, 12 end;")
    static void wordsOfSort0(Bench b) {
        wordIs(b, 0, 8, "in");
        wordIs(b, 0, 9, "out");
        wordIs(b, 0, 11, "both");
        wordIs(b, 0, 10, "group");
        wordIs(b, 0, 12, "end");
    }

    @Told(in = P7, says = "SORT 1: 0 page, 1 least, 2 most, 7 size, 8 id, 9 many, 10 push, 11 pop;")
    static void wordsOfSort1(Bench b) {
        int[] tags = {0, 1, 2, 7, 8, 9, 10, 11};
        String[] words = {"page", "least", "most", "size", "id", "many", "push", "pop"};
        for (int i = 0; i < tags.length; i++) wordIs(b, 1, tags[i], words[i]);
    }

    @Told(in = P7, says = "SORT 2: 0 use, 1 first, 2 upto;")
    static void wordsOfSort2(Bench b) {
        wordIs(b, 2, 0, "use");
        wordIs(b, 2, 1, "first");
        wordIs(b, 2, 2, "upto");
    }

    @Told(in = P7, says = "all others what.")
    static void allOthersAreWhat(Bench b) {
        for (int tag = 0; tag <= 15; tag++) {
            if (tag < 8 || tag > 12) wordIs(b, 0, tag, "what");
            if (tag > 2 && tag < 7 || tag > 11) wordIs(b, 1, tag, "what");
            if (tag > 2) wordIs(b, 2, tag, "what");
            wordIs(b, 3, tag, "what");
        }
        b.fresh().says(252 + 1, 7).writes(0, "what 7");
    }

    @Told(in = P7, says = "and, if it has further BYTES, a blank (32) and a number")
    static void aNumberIsWrittenIfThereAreFurtherBytes(Bench b) {
        b.fresh().says(4).writes(0, "page");
        b.fresh().says(4 + 1, 0).writes(0, "page 0");
        b.fresh().says(4 + 2, 0, 0).writes(0, "page 0");
        b.fresh().says(4 + 3, 0, 0, 0, 0).writes(0, "page 0");
        b.fresh().says(4 + 1, 5).written(0, 4).is(32);
        b.fresh().says(10 * 16 + 4 + 1, 5).writes(0, "push 5");
        b.fresh().says(12 * 16 + 1, 5).writes(0, "end 5");
    }

    @Told(in = P7, says = "(Z of SORT 1 with TAG 1 or 2, else N)")
    static void theNumberIsZOfLeastAndMostElseN(Bench b) {
        b.fresh().says(16 + 4 + 1, 255).writes(0, "least -1");
        b.fresh().says(32 + 4 + 1, 255).writes(0, "most -1");
        b.fresh().says(16 + 4 + 2, 0, 128).writes(0, "least -32768");
        b.fresh().says(32 + 4 + 3, 255, 255, 255, 255).writes(0, "most -1");
        b.fresh().says(16 + 8 + 1, 255).writes(0, "first 255");
        b.fresh().says(32 + 8 + 1, 255).writes(0, "upto 255");
        b.fresh().says(16 + 1, 255).writes(0, "what 255");
        b.fresh().says(4 + 1, 255).writes(0, "page 255");
        b.fresh().says(3 * 16 + 4 + 1, 255).writes(0, "what 255");
        b.fresh().says(4 + 3, 255, 255, 255, 255).writes(0, "page 2147483647");
        b.fresh().says(4 + 3, 0, 0, 0, 128).writes(0, "page 0");
    }

    @Told(in = P7, says = "in figures, - ahead if it is below 0.")
    static void theNumberIsWrittenInFigures(Bench b) {
        for (int n : new int[] {1, 9, 10, 11, 99, 100, 101, 109, 110, 999, 1000, 1001, 9999, 10000, 32767}) {
            b.fresh().most(n).writes(0, "most " + n);
            b.fresh().most(-n).writes(0, "most -" + n);
        }
        b.fresh().wide(1, 1, LOWEST).writes(0, "least -2147483648");
        b.fresh().wide(1, 1, HIGHEST).writes(0, "least 2147483647");
        b.fresh().wide(1, 1, 1000000000).writes(0, "least 1000000000");
        b.fresh().wide(1, 1, 999999999).writes(0, "least 999999999");
    }

    @Told(in = P7, says = "k = -1: how many signs.")
    static void writtenOfMinus1IsHowManySigns(Bench b) {
        b.fresh().says(128).written(0, -1).is(2);
        b.fresh().least(-5).written(0, -1).is(8);
        b.fresh().least(10).written(0, -1).is(8);
        b.fresh().says(4 + 1, 0).written(0, -1).is(6);
        b.fresh().wide(1, 1, LOWEST).written(0, -1).is(17);
    }

    @Told(in = P7, says = "NONE: there is no such ITEM")
    static void writtenIsNoneWithoutSuchAnItem(Bench b) {
        b.fresh().written(0, 0).is(NONE);
        b.fresh().written(0, -1).is(NONE);
        Trial x = b.fresh().page(1).says(7, 0, 0, 0);
        x.written(0, 0).is('p');
        for (int k = -1; k <= 3; k++) {
            x.written(1, k).is(NONE);
            x.written(2, k).is(NONE);
        }
        x.written(HIGHEST, 0).is(NONE);
        Trial y = b.fresh().fill(96);
        y.written(95, 0).is('w');
        y.written(96, 0).is(NONE);
        y.written(96, -1).is(NONE);
    }

    @Told(in = P7, says = "there is no such ITEM, sign")
    static void writtenIsNoneWithoutSuchASign(Bench b) {
        Trial x = b.fresh().least(-5).end();
        x.written(0, 7).is('5');
        x.written(0, 8).is(NONE);
        x.written(0, HIGHEST).is(NONE);
        x.written(1, 2).is('d');
        x.written(1, 3).is(NONE);
    }

    @Told(in = P7, says = "(i below 0, k below -1, too).")
    static void writtenIsNoneBelowAllItemsAndSigns(Bench b) {
        Trial x = b.fresh().page(1).page(2);
        for (int i : new int[] {-1, -2, LOWEST}) {
            x.written(i, 0).is(NONE);
            x.written(i, -1).is(NONE);
        }
        for (int k : new int[] {-2, -3, LOWEST}) x.written(0, k).is(NONE);
        x.written(LOWEST, LOWEST).is(NONE);
    }
}
