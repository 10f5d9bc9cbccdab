import java.util.List;

/** Models with one sentence broken each, so that it can be seen that the tests of this sentence notice. */
final class BrokenModels {
    private BrokenModels() {}

    /** In the model's source, instead of a text that stands there once, another one; these tests have to fail then. */
    record Broken(String text, String instead, List<String> tests) {}

    private static Broken in(String text, String instead, String... tests) {
        return new Broken(text, instead, List.of(tests));
    }

    // Texts of the model that are broken in more than one way.
    private static final String SAY_OUTSIDE =
        "if (b < 0 || b > 255) return OUTSIDE;\n        if (program.size() == 96) return FULL;";
    private static final String PUT_OUTSIDE =
        "if (b < 0 || b > 255) return OUTSIDE;\n        if (letter.size() == 33) return FULL;";
    private static final String IMAGE_OUTSIDE = "if (k != 0 && k != 1) return OUTSIDE;\n        images.set";
    private static final String RESTORE_OUTSIDE =
        "if (k != 0 && k != 1) return OUTSIDE;\n        if ((kept >> k & 1) == 0) return STATE;";
    private static final String FORGET = "uses.clear();\n                first = 0;";
    private static final String COME_NO = "letter.clear();\n            return NO;";
    private static final String COME_FULL = "if (before >= 100) return FULL;";
    private static final String READ_DONE =
        "shape = s;\n        events.clear();\n        letter.clear();\n        return s.fields.size();";
    private static final String READ_FAULT = "told = s.fault;\n        if (s.fault != 0) return FAULT;";
    private static final String FIELD_REFUSED = "if (i < 0 || i >= shape.fields.size()) return UNKNOWN;\n"
        + "        if (what < 0 || what > 11) return OUTSIDE;";
    private static final String GROUP_REFUSED = "if (what < 0 || what > 3) return OUTSIDE;\n"
        + "        if (i < 0 || i >= shape.groups.size()) return NONE;";
    private static final String WANT_UNKNOWN = "if (i < 0 || i >= shape.fields.size()) return UNKNOWN;\n"
        + "        Field f = shape.fields.get(i);\n        if (f.slot ||";
    private static final String EACH_OLD_FIELD =
        "for (int i = 0; i < Math.min(s.fields.size(), shape.fields.size()); i++) s.fields.get(i)";
    private static final String WITHIN = "g.within = open.isEmpty() ? null : open.get(open.size() - 1);";
    private static final String EVENT = "p < 0 || p > 2 ? OUTSIDE : events.isEmpty() ? NONE : events.get(0)[p]";
    private static final String LAST = "return f.slot ? f.item.pressed.size() : f.last;";
    private static final String COUNTS = "return new int[] {shape.fields.size(), shape.groups.size(), events.size(), "
        + "program.size(), letter.size(),\n            came, told, kept}[what];";

    static List<Broken> refusals() {
        return List.of(
            in("return (int) change(c, p, q, r);", "return calls.size() > 511 ? 0 : (int) change(c, p, q, r);",
                "the512thCallIsAnsweredLikeTheFirst"),
            in(SAY_OUTSIDE, "if (program.size() == 96) return FULL;\n if (b < 0 || b > 255) return OUTSIDE;",
                "sayIsOutsideAheadOfFull"),
            in("if (sort < 0 ||", "if (program.size() == 96) return FULL;\n if (sort < 0 ||", "itemIsOutsideAheadOfFull"),
            in(FIELD_REFUSED, "if (what < 0 || what > 11) return OUTSIDE;\n"
                + "if (i < 0 || i >= shape.fields.size()) return UNKNOWN;", "fieldIsUnknownAheadOfOutside"),
            in(PUT_OUTSIDE, "if (letter.size() == 33) return FULL;\n if (b < 0 || b > 255) return OUTSIDE;",
                "putIsOutsideAheadOfFull"),
            in("if (bytes.isEmpty()) return NO;", COME_FULL + "if (bytes.isEmpty()) return NO;", "comeIsNoAheadOfFull"),
            in(WANT_UNKNOWN, WANT_UNKNOWN.replace("UNKNOWN", "n == 0 ? UNKNOWN : OUTSIDE"),
                "wantIsUnknownAheadOfTheOthers"),
            in("if (f.slot || f.way == 0) return STATE;\n        if (n < f.least || n > f.most) return OUTSIDE;",
                "if (n < f.least || n > f.most) return OUTSIDE;\n if (f.slot || f.way == 0) return STATE;",
                "wantIsStateAheadOfOutside"),
            in(RESTORE_OUTSIDE, "if ((kept >> k & 1) == 0) return STATE;\n if (k != 0 && k != 1) return OUTSIDE;",
                "restoreIsOutsideAheadOfState"),
            in(GROUP_REFUSED, "if (i < 0 || i >= shape.groups.size()) return NONE;\n"
                + "if (what < 0 || what > 3) return OUTSIDE;", "groupIsOutsideAheadOfNone"),
            in(EVENT, "events.isEmpty() ? NONE : p < 0 || p > 2 ? OUTSIDE : events.get(0)[p]",
                "eventIsOutsideAheadOfNone"),
            in("if (way < 1 ||", "if (k < -1) return NONE;\n if (way < 1 ||", "madeIsOutsideAheadOfNone"),
            in(SAY_OUTSIDE, SAY_OUTSIDE.replace("return OUTSIDE;", "{ program.add(0); return OUTSIDE; }"),
                "sayRefusedChangesNothing"),
            in(SAY_OUTSIDE, SAY_OUTSIDE.replace("return FULL;", "{ program.set(95, b); return FULL; }"),
                "sayRefusedChangesNothing"),
            in("if (program.size() + bytes.size() > 96) return FULL;", "if (program.size() + bytes.size() > 96) {\n"
                + "while (program.size() < 96) program.add(bytes.remove(0));\n return FULL; }", "itemRefusedChangesNothing"),
            in("filter(x -> x.whole).count();\n        return OUTSIDE;",
                "filter(x -> x.whole).count();\n told = 0;\n return OUTSIDE;", "questionsRefusedChangeNothing"),
            in(PUT_OUTSIDE, PUT_OUTSIDE.replace("return FULL;", "{ letter.set(32, b); return FULL; }"),
                "putRefusedChangesNothing"),
            in(COME_NO, "letter.clear();\n came++;\n return NO;", "comeThatIsNoChangesNothingElse"),
            in(COME_FULL, "if (before >= 100) { letter.clear(); return FULL; }", "comeThatIsFullChangesNothing"),
            in(READ_FAULT, "told = s.fault;\n if (s.fault != 0) { letter.clear(); return FAULT; }",
                "readRefusedChangesNothingElse"),
            in("n > f.most) return OUTSIDE;", "n > f.most) { f.wanted = 0; return OUTSIDE; }", "wantRefusedChangesNothing"),
            in(IMAGE_OUTSIDE, IMAGE_OUTSIDE.replace("return OUTSIDE;", "{ kept = 0; return OUTSIDE; }"),
                "imageRefusedChangesNothing"),
            in("(kept >> k & 1) == 0) return STATE;", "(kept >> k & 1) == 0) { letter.clear(); return STATE; }",
                "restoreRefusedChangesNothing"),
            in(READ_FAULT, "if (s.fault != 0) return FAULT;\n told = s.fault;", "readRefusedTellsItsFault"),
            in(COME_NO, "return NO;", "comeThatIsNoEmptiesTheLetter", "behindNoTheLetterIsEmpty"));
    }

    static List<Broken> items() {
        return List.of(
            in(SAY_OUTSIDE, SAY_OUTSIDE.replace("255", "254"), "bytesAre0To255"),
            in(PUT_OUTSIDE, PUT_OUTSIDE.replace("255", "256"), "bytesAre0To255"),
            in("program.size() == 96", "program.size() == 95", "theProgramHasUpTo96Bytes"),
            in("{0, 1, 2, 4}[b % 4]", "{0, 1, 2, 3}[b % 4]", "anItemHasAsManyBytesAsItsFirstOneTells"),
            in("x.sort = b / 4 % 4;", "x.sort = b / 4 % 3;", "sortAndTagAreToldByTheFirstByte"),
            in("x.tag = b / 16;", "x.tag = b / 16 % 8;", "sortAndTagAreToldByTheFirstByte"),
            in("program.get(at + i);", "program.get(at + x.more + 1 - i);", "nIsTheFurtherBytesFirstOneLowest"),
            in("if (x.tag == 0) now[0] = x.n;", "if (x.tag == 0 && x.more > 0) now[0] = x.n;", "nIs0WithoutFurtherBytes"),
            in("x.n %= 2147483648L;", "", "nOfFourBytesLeavesTheHighestBitOut"),
            in("x.n >= weight / 2 && x.more > 0", "x.n >= weight / 2 && x.more == 1", "zIsInTwosComplementOfJustSoManyBits"),
            in("x.n >= weight / 2 && x.more > 0", "x.n >= weight / 2", "zIs0WithoutFurtherBytes"),
            in(FORGET, FORGET + "now[0] = 0;", "aNumberIsSetForAllItemsBehind"),
            in("now[0] = x.n;", "now[0] = x.z;", "tag0SetsPageToN"),
            in("now[1] = x.z;", "now[1] = x.n;", "tag1SetsLeastToZ"),
            in("now[2] = x.z;", "now[2] = x.n;", "tag2SetsMostToZ"),
            in("now[3] = x.n;", "now[3] = x.z;", "tag7SetsSizeToN"),
            in("now[4] = x.n;", "now[4] = x.z;", "tag8SetsIdToN"),
            in("now[5] = x.n;", "now[5] = x.z;", "tag9SetsManyToN"),
            in("stack.add(now.clone());", "stack.add(now);", "pushKeepsAllSixAsTheyAre"),
            in("now = stack.remove(stack.size() - 1);", "now = stack.remove(0);", "popBringsTheLastOnesBackAndTakesThemOff"),
            in("now = stack.remove(stack.size() - 1);", "now = stack.get(stack.size() - 1).clone();",
                "popBringsTheLastOnesBackAndTakesThemOff"),
            in("if (x.tag == 2) now[2]", "if (x.tag == 2 || x.tag == 3) now[2]", "otherTagsOfSort1DoNothing"),
            in("long[] now = new long[6];", "long[] now = {0, 0, 0, 1, 0, 1};", "atFirstAllSixAre0"),
            in("stack = new ArrayList<>();", "stack = new ArrayList<>(List.of(now));", "atFirstTheStackIsEmpty"),
            in(FORGET, "first = 0;", "usesAreForTheNextItemOfSort0", "behindEachItemOfSort0NoUsesAreTold"),
            in("uses.add(x.n);", "if (!uses.contains(x.n)) uses.add(x.n);", "tag0OfSort2TellsOneUseMore"),
            in("if (x.tag == 1) first = x.n;", "if (x.tag == 1 && first == 0) first = x.n;", "tag1OfSort2SetsFirst"),
            in("u <= x.n;", "u < x.n;", "tag2OfSort2TellsAllFromFirstToN"),
            in("if (x.tag == 2) for", "if (x.tag == 2 && x.n < first) uses.add(x.n);\n if (x.tag == 2) for",
                "tag2OfSort2TellsNoneIfNIsLess"),
            in("if (x.tag == 0) uses.add", "if (x.tag == 0 || x.tag == 3) uses.add", "otherTagsOfSort2DoNothing"),
            in("x.tag == 9 ? 1 : 2;", "1;", "tags8And9And11MakeFields"),
            in(WITHIN, "g.within = s.groups.isEmpty() ? null : s.groups.get(s.groups.size() - 1);",
                "tag10BeginsAGroupWithinTheOneThatIsNotEnded"),
            in("open.remove(open.size() - 1);", "open.remove(0);", "tag12EndsThatGroup"),
            in(FORGET, "if (x.tag != 12) uses.clear();\n first = 0;", "behindEachItemOfSort0NoUsesAreTold"),
            in(FORGET, "if (x.n % 2 == 0) uses.clear();\n first = 0;", "behindEachItemOfSort0NoUsesAreTold"),
            in(FORGET, "uses.clear();", "behindEachItemOfSort0FirstIs0"),
            in(FORGET, "uses.clear();\n if (x.tag != 12) first = 0;", "behindEachItemOfSort0FirstIs0"));
    }

    static List<Broken> shapes() {
        return List.of(
            in("s.bits[way][(int) now[4]] += now[3];", "s.bits[way][0] += now[3];", "lettersAreApartByWayAndId"),
            in("Shape s = new Shape();", "Shape s = new Shape();\n s.bits = shape.bits;", "atFirstNoLetterHasBits"),
            in("int from = s.bits[way][(int) now[4]];", "int from = k * (int) now[3];",
                "anItemMakesItsLetterLongerByManyTimesSize"),
            in("if (x.n % 2 == 1) continue;", "if (x.n == 1) continue;", "oddNMakesNoFields"),
            in("s.fields.add(f);", "s.fields.add(0, f);", "eachPieceIsAFieldNumberedAsItComes"),
            in("f.slot = x.n / 2 % 2 == 0;", "f.slot = x.n != 2 && x.n != 6;", "itIsAValueIfNBy2IsOdd"),
            in("k < uses.size() ? uses.get(k) : uses.get(uses.size() - 1)", "uses.get(k % uses.size())",
                "aValueHasTheUseOfItsPieceOrTheLastOne"),
            in("f.uses.add(0L);", "f.uses.add(1L);", "aValueHasTheUse0IfThereAreNone"),
            in("f.uses.addAll(uses);", "f.uses.addAll(new TreeSet<>(uses));", "aSlotHasAllUses"),
            in("f.step = !f.slot && x.n / 4 % 2 == 1;", "f.step = x.n / 4 % 2 == 1;", "itIsAStepIfItIsAValueAndNBy4IsOdd"),
            in("boolean zero =", "for (Field f : s.fields) f.page = now[0];\n boolean zero =",
                "aFieldHasPageLeastMostAsTheyAreThen"),
            in("uses, open.isEmpty() ? null : open.get(open.size() - 1));",
                "uses, s.groups.isEmpty() ? null : s.groups.get(s.groups.size() - 1));", "aFieldIsOfTheGroupThatIsNotEnded"),
            in("number += 1L << i;", "number += 1L << (f.size - 1 - i);", "theNumberIsItsBitsFirstOneLowest"),
            in("f.least < 0 && number", "f.least < -1 && number", "theNumberIsInTwosComplementIfLeastIsBelow0"),
            in("(b >> i & 1) == 1", "(b >> (7 - i) & 1) == 1", "bitIOfALetterIsBitIModulo8OfByteIBy8"),
            in("number > f.most) return;", "number >= f.most) return;", "itIsInRangeIfItIsLeastToMost"),
            in("if (number < f.least ||", "if (number <= f.least ||", "itIsInRangeIfItIsLeastToMost"),
            in("s.groups.add(g);", "s.groups.add(0, g);", "groupsAreNumberedAsTheyBeginAndHaveAKind"),
            in("g.use = uses.isEmpty() ? 0 : uses.get(0);", "g.use = uses.isEmpty() ? 0 : uses.get(uses.size() - 1);",
                "aGroupHasTheUseThatWasToldFirst"),
            in(WITHIN, "g.within = open.isEmpty() ? null : open.get(0);", "aGroupIsWithinAnotherOrNone"));
    }

    static List<Broken> faults() {
        return List.of(
            in("for (Item x : items()) {", "List<Item> all = items();\n java.util.Collections.reverse(all);\n"
                + "for (Item x : all) {", "theFirstItemWithAFaultIsTold"),
            in("s.fault = f.first();", "s.fault = f.last();", "ofSeveralFaultsOfAnItemTheLeastIsTold"),
            in("if (!x.whole) f.add(1);", "if (!x.whole && x.more < 4) f.add(1);", "fault1NotAllItsBytes"),
            in("x.tag > 12)) f.add(2);", "x.tag > 13)) f.add(2);", "fault2SortOrTag"),
            in("x.sort == 3 ||", "x.sort == 3 && x.tag < 15 ||", "fault2SortOrTag"),
            in("x.n > 31) f.add(3);", "x.n > 32) f.add(3);", "fault3Size"),
            in("x.n > 31) f.add(3);", "x.n >= 31) f.add(3);", "fault3Size"),
            in("(x.n == 0 || x.n > 15)", "x.n > 15", "fault4Id"),
            in("(x.n == 0 || x.n > 15)", "(x.n == 0 || x.n > 16)", "fault4Id"),
            in("x.n > 40) f.add(5);", "x.n >= 40) f.add(5);", "fault5Many"),
            in("x.n > 40) f.add(5);", "x.n > 41) f.add(5);", "fault5Many"),
            in("stack.size() == 4", "stack.size() == 5", "fault6FourOnTheStack"),
            in("stack.size() == 4", "stack.size() == 3", "fault6FourOnTheStack"),
            in("stack.isEmpty()) f.add(7);", "stack.isEmpty()) f.add(6);", "fault7NoneOnTheStack"),
            in("uses.size() + more > 32", "more > 32", "fault8Uses"),
            in("uses.size() + more > 32", "uses.size() + more > 31", "fault8Uses"),
            in("s.groups.size() == 12", "open.size() == 12", "fault9The13thGroup"),
            in("s.groups.size() == 12", "s.groups.size() == 11", "fault9The13thGroup"),
            in("open.isEmpty()) f.add(10);", "s.groups.isEmpty()) f.add(10);", "fault10NoGroupToEnd"),
            in("(now[3] == 0 || now[5] == 0)", "(now[3] == 0 && now[5] == 0)", "fault11SizeOrManyIs0"),
            in("now[1] > now[2] && x.n % 2 == 0", "now[1] > now[2]", "fault12LeastAboveMost"),
            in("now[1] > now[2] && x.n % 2 == 0", "now[1] >= now[2] && x.n % 2 == 0", "fault12LeastAboveMost"),
            in("> 256) f.add(13);", ">= 256) f.add(13);", "fault13Bits"),
            in("> 256) f.add(13);", "> 257) f.add(13);", "fault13Bits"),
            in("s.fields.size() + now[5] > 48", "s.fields.size() + now[5] >= 48", "fault14Fields"),
            in("x.n % 2 == 0 && s.fields.size() + now[5] > 48", "s.fields.size() + now[5] > 48", "fault14Fields"),
            in("s.place = x.place;", "s.place = x.place + x.more;", "thePlaceIsThatOfTheItemsFirstByte"),
            in("!open.isEmpty() ? 15", "open.size() > 1 ? 15", "fault15AGroupIsNotEnded"),
            in("zero && other ? 16", "other ? 16", "fault16FieldsOfId0AndOfAnother"),
            in("s.fault == 0 ? NONE : program.size();", "s.fault == 0 ? NONE : program.size() - 1;",
                "thePlaceOfTheWholeIsHowManyBytesThereAre"),
            in("STATE = -3, FULL = -4", "STATE = -4, FULL = -3", "theConstantsAreWhatRefusedCallsAnswer"));
    }

    static List<Broken> newObjects() {
        return List.of(
            in("    List<Integer> program =", "    static List<Integer> program =", "ofANewObjectTheProgramIsEmpty"),
            in("    Shape shape =", "    static Shape shape =", "aNewObjectHasNoFieldAndNoGroup"),
            in("    int came = 0, told = 0;", "    static int came = 0, told = 0;", "ofANewObjectNoFaultWasTold"),
            in("    int kept = 0;", "    static int kept = 0;", "ofANewObjectNoImageIsKept"));
    }

    static List<Broken> programs() {
        return List.of(
            in("program.add(b);\n        return program.size();", "program.add(b);\n return program.size() - 1;",
                "sayAnswersHowManyBytesThereAre"),
            in(SAY_OUTSIDE, SAY_OUTSIDE.replace("b < 0", "b < -1"), "sayIsOutsideBelow0AndAbove255"),
            in("program.size() == 96", "program.size() == 97", "sayIsFullAt96"),
            in("int had = program.size(); program.clear(); return had;", "program.clear(); return program.size();",
                "wipeEmptiesAndAnswersHowManyThereWere"),
            in("program.clear(); return had;", "program.clear(); shape = new Shape(); return had;", "behindWipeFieldsStay"),
            in("sort > 2 ||", "sort > 1 ||", "itemTakesTheSorts0To2"),
            in("tag > 15 ||", "tag > 14 ||", "itemTakesTheTags0To15"),
            in("n < -32768", "n <= -32768", "itemTakesNumbersOf16Bits"),
            in("n > 32767)", "n > 32768)", "itemTakesNumbersOf16Bits"),
            in("program.addAll(bytes);", "program.addAll(0, bytes);", "itemComesBehindTheProgram"),
            in("if (n == 0) {", "if (n == 0 && sort == 0) {", "itemOf0HasNoFurtherByte"),
            in("n >= -128 && n <= 127", "n > -128 && n <= 127", "itemOfMinus128To127HasOneFurtherByte"),
            in("n >= -128 && n <= 127", "n >= -128 && n < 127", "itemOfMinus128To127HasOneFurtherByte"),
            in("n >= -128 && n <= 127", "n >= -128 && n <= 128", "itemOfAllOtherNumbersHasTwoFurtherBytes"),
            in("n >= -128 && n <= 127", "n >= -129 && n <= 127", "itemOfAllOtherNumbersHasTwoFurtherBytes"),
            in("bytes.add(Math.floorMod(n, 256));", "bytes.add(Math.abs(n));", "itemHasItsNumberInTwosComplement"),
            in("program.addAll(bytes);\n        return program.size();", "program.addAll(bytes);\n return bytes.size();",
                "itemAnswersHowManyBytesThereAre"),
            in("tag < 0 || tag > 15 ||", "", "itemIsOutsideByEachOfTheThree"),
            in("program.size() + bytes.size() > 96", "program.size() + bytes.size() >= 96", "itemIsFullAbove96"),
            in("program.size() + bytes.size() > 96", "program.size() >= 96", "itemIsFullAbove96"),
            in("shape = s;", "s.groups.addAll(0, shape.groups);\n shape = s;",
                "behindReadFieldsAndGroupsAreThoseOfTheProgram"),
            in("shape = s;", EACH_OLD_FIELD + ".last = shape.fields.get(i).last;\n shape = s;",
                "behindReadAllLastNumbersAre0"),
            in("shape = s;", EACH_OLD_FIELD + ".item.pressed = shape.fields.get(i).item.pressed;\n shape = s;",
                "behindReadNothingIsPressed"),
            in(READ_DONE, READ_DONE.replace("events.clear();", ""), "behindReadThereAreNoEvents"),
            in(READ_DONE, READ_DONE.replace("letter.clear();", ""), "behindReadTheLetterIsEmpty"),
            in("shape = s;", EACH_OLD_FIELD + ".wanted = shape.fields.get(i).wanted;\n shape = s;",
                "behindReadAllThatValuesAreToBeIs0", "wantIs0AtFirstAndWhenTheDeviceIsRead"),
            in(READ_DONE, READ_DONE.replace("return s.fields.size();", "return s.fields.size() + s.groups.size();"),
                "readAnswersHowManyFieldsThereAre"),
            in(READ_DONE, "program.clear();\n" + READ_DONE, "behindReadTheProgramStays"),
            in(READ_FAULT, "told = s.fault;\n if (s.fault != 0) { events.clear(); return FAULT; }",
                "behindAFaultAllStaysAsItWas"),
            in(READ_FAULT, "told = s.fault;\n shape = s;\n if (s.fault != 0) return FAULT;", "behindAFaultAllStaysAsItWas"),
            in("if (what == 0) return make().fault;", "if (what == 0) return told;", "faultIsOfTheProgramAsItIs"),
            in("if (what == 0) return make().fault;",
                "if (what == 0) return make().fault == 0 ? NONE : make().fault;", "fault0IsTheNumberOr0"),
            in("if (what == 1) return make().place;", "if (what == 1) return Math.max(0, make().place);",
                "fault1IsThePlaceOrNone"),
            in("items().stream().filter(x -> x.whole).count();", "items().size();", "fault2IsHowManyItemsHaveAllTheirBytes"),
            in("if (what == 2) return (int)", "if (what >= 2) return (int)", "faultIsOutsideBelow0AndAbove2"));
    }

    static List<Broken> words() {
        return List.of(
            in("Item x = all.get(i);", "Item x = all.get(Math.max(0, i - 1));", "writtenCountsItemsAndSignsFrom0"),
            in("\"group\", \"both\"", "\"both\", \"group\"", "wordsOfSort0"),
            in("\"push\", \"pop\"", "\"pop\", \"push\"", "wordsOfSort1"),
            in("\"first\", \"upto\"", "\"upto\", \"first\"", "wordsOfSort2"),
            in(": \"what\";", ": \"none\";", "allOthersAreWhat"),
            in("if (x.more > 0) text", "if (x.n > 0) text", "aNumberIsWrittenIfThereAreFurtherBytes"),
            in("(x.sort == 1 && (x.tag == 1 || x.tag == 2) ? x.z : x.n)", "(x.tag == 1 || x.tag == 2 ? x.z : x.n)",
                "theNumberIsZOfLeastAndMostElseN"),
            in("(x.sort == 1 && (x.tag == 1 || x.tag == 2) ? x.z : x.n)", "x.n", "theNumberIsZOfLeastAndMostElseN"),
            in("\" \" + (x.sort", "\" \" + Math.abs(x.sort", "theNumberIsWrittenInFigures"),
            in("if (k == -1) return text.length();", "if (k == -1) return text.length() - 1;",
                "writtenOfMinus1IsHowManySigns"),
            in("i >= all.size() || !all.get(i).whole", "i >= all.size()", "writtenIsNoneWithoutSuchAnItem"),
            in("k >= text.length() ? NONE :", "k >= text.length() ? (k < 0 ? NONE : 0) :", "writtenIsNoneWithoutSuchASign"),
            in("if (k == -1) return text.length();", "if (k < 0) return text.length();",
                "writtenIsNoneBelowAllItemsAndSigns"),
            in("if (i < 0 || i >= all.size()", "i = Math.max(i, 0);\n if (i >= all.size()",
                "writtenIsNoneBelowAllItemsAndSigns"));
    }

    static List<Broken> fields() {
        return List.of(
            in("{f.way, f.id, f.firstBit", "{f.way % 2, f.id, f.firstBit", "field0IsTheWay"),
            in("{f.way, f.id, f.firstBit", "{f.way, f.id % 15, f.firstBit", "field1IsTheId"),
            in("f.firstBit, f.size, f.least", "f.firstBit % 8, f.size, f.least", "field2IsTheFirstBit"),
            in("f.firstBit, f.size, f.least", "f.firstBit, f.size % 31, f.least", "field3IsTheSize"),
            in("f.least, f.most, f.slot", "Math.max(f.least, -32768), f.most, f.slot", "field4IsLeast"),
            in("f.least, f.most, f.slot", "f.least, Math.min(f.most, 32767), f.slot", "field5IsMost"),
            in("f.slot ? 1 : 0, f.step", "f.slot ? 0 : 1, f.step", "field6IsWhetherItIsASlot"),
            in("f.step ? 1 : 0, f.page", "f.slot || f.step ? 1 : 0, f.page", "field7IsWhetherItIsAStep"),
            in("f.step ? 1 : 0, f.page", "f.step ? 1 : 0, f.page % 65536", "field8IsThePage"),
            in("f.uses.size(), f.uses.isEmpty()", "f.slot ? f.uses.size() : 0, f.uses.isEmpty()", "field9IsHowManyUses"),
            in("f.uses.isEmpty() ? 0 : f.uses.get(0)", "f.uses.isEmpty() ? NONE : f.uses.get(0)", "field10IsTheFirstUseOr0"),
            in("numberOf(f.group)}", "Math.max(numberOf(f.group), -1)}", "field11IsTheGroupOrNone"),
            in(FIELD_REFUSED, FIELD_REFUSED.replace("UNKNOWN", "OUTSIDE"), "fieldIsUnknownWithoutSuchAField"),
            in(FIELD_REFUSED, FIELD_REFUSED.replace("return OUTSIDE", "return UNKNOWN"), "fieldIsOutsideBelow0AndAbove11"),
            in("return g.kind;", "return g.kind % 65536;", "group0IsTheKind"),
            in("return g.use;", "return g.kind;", "group1IsTheUse"),
            in("return numberOf(g.within);", "return i == 0 ? NONE : i - 1;", "group2IsTheGroupAroundItOrNone"),
            in("h != null; h = h.within)", "h != null; h = null)", "group3IsHowManyFieldsAreWithin"),
            in(GROUP_REFUSED, GROUP_REFUSED.replace("NONE", "UNKNOWN"), "groupIsNoneWithoutSuchAGroup"),
            in(GROUP_REFUSED, GROUP_REFUSED.replace("what > 3", "what > 4"), "groupIsOutsideBelow0AndAbove3"),
            in(": shape.bits[p][q];", ": Math.min(255, shape.bits[p][q]);", "lengthIsHowManyBitsTheLetterHas"),
            in("q > 15 ? OUTSIDE :", "q > 15 ? 0 :", "lengthIsOutsideByBoth"));
    }

    static List<Broken> letters() {
        return List.of(
            in("letter.add(b);\n        return letter.size();", "letter.add(b);\n return 33 - letter.size();",
                "putAnswersHowManyBytesTheLetterHas"),
            in(PUT_OUTSIDE, PUT_OUTSIDE.replace("255", "256"), "putIsOutsideBelow0AndAbove255"),
            in("letter.size() == 33", "letter.size() == 32", "putIsFullAt33"),
            in("letter.size() == 33", "letter.size() == 34", "putIsFullAt33"),
            in("if (f.way != 0 || f.id", "if (f.way == 1 || f.id", "aLetterComesOfWay0"),
            in("letter.clear();\n        came++;", "came++;", "behindComeTheLetterIsEmpty"),
            in("return events.size() - before;", "return events.size();", "comeAnswersHowManyEventsAreMore"),
            in("if (named()) id =", "if (named() && shape.fields.get(0).way == 0) id =",
                "theFirstByteIsTheIdIfAnyFieldHasOne"),
            in("return shape.fields.stream().anyMatch(f -> f.id != 0);",
                "for (int i = 1; i <= 15; i++) if (shape.bits[0][i] > 0) return true;\n"
                + "return shape.fields.stream().anyMatch(f -> f.id != 0);", "allBytesAreBitsIfNoFieldHasAnId"),
            in("if (bytes.isEmpty()) return NO;", "if (bytes.isEmpty()) return 0;", "comeIsNoWithoutAByte"),
            in("shape.bits[0][id] == 0 ||", "", "comeIsNoWithoutBits"),
            in("if (id > 15 ||", "id %= 16;\n if (id > 15 ||", "comeIsNoWithAnIdAbove15"),
            in("bytes.size() != (shape.bits[0][id] + 7) / 8", "bytes.size() < (shape.bits[0][id] + 7) / 8",
                "comeIsNoWithOtherThanJustSoManyBytes"),
            in("bytes.size() != (shape.bits[0][id] + 7) / 8", "bytes.size() != shape.bits[0][id] / 8 + 1",
                "comeIsNoWithOtherThanJustSoManyBytes"),
            in(COME_FULL, "if (before > 100) return FULL;", "comeIsFullAt100Events"),
            in(COME_FULL, "if (before >= 99) return FULL;", "comeIsFullAt100Events"),
            in(COME_FULL, "if (before == 100) return FULL;", "comeIsFullAt100Events"),
            in(COME_FULL, "if (before >= 100 && bytes.get(0) != shape.fields.get(0).last) return FULL;",
                "comeIsFullThoughTheLetterHasNoNews"),
            in("for (long u : now) {", "for (long u : now) {\n if (events.size() >= 150) break;",
                "comeBehind99EventsTellsAsManyAsThereAre"),
            in("if (f.slot) slots(f, bits);\n            else value(f, numberOf(f, bits));\n        }",
                "if (!f.slot) value(f, numberOf(f, bits));\n }\n for (Field f : shape.fields) {\n"
                + "if (f.way == 0 && f.id == id && f.slot) slots(f, bits);\n }", "fieldsAreGoneThroughByRisingNumbers"));
    }

    static List<Broken> events() {
        return List.of(
            in("number > f.most) return;", "number > f.most) { f.last = number; return; }", "aValueOutOfRangeIsNothing"),
            in("f.step ? number != 0 :", "f.step ? number != 0 && number != f.last :", "aStepIsAnEventIfItIsNot0"),
            in(": number != f.last)", ": number != 0 && number != f.last)", "anotherValueIsAnEventIfItIsNotTheLastOne"),
            in(": number != f.last)", ": true)", "anotherValueIsAnEventIfItIsNotTheLastOne"),
            in("f.uses.get(0), number}", "f.uses.get(0) % 65536, number}", "anEventOfAValueTellsFieldUseAndNumber"),
            in("f.last = number;", "if (!f.step) f.last = number;", "theNumberIsTheLastOneThen"),
            in("if (f.item.fields.get(0) != f) return;",
                "if (f.item.fields.get(f.item.fields.size() - 1) != f) return;", "slotsOfOneItemAreDoneTogether"),
            in("if (!f.item.pressed.contains(u))",
                "if (shape.fields.stream().noneMatch(g -> g.item.pressed.contains(u)))", "slotsOfTwoItemsAreApart"),
            in("number > s.most) continue;", "false) continue;", "aSlotInRangePressesTheUseAtItsPlace"),
            in("if (number - s.least < s.uses.size()) now.add(s.uses.get((int) (number - s.least)));",
                "if (!s.uses.isEmpty()) now.add(s.uses.get((int) Math.min(number - s.least, s.uses.size() - 1)));",
                "aSlotBehindAllUsesPressesNone"),
            in("for (long u : f.item.pressed) {", "for (long u : f.item.pressed.descendingSet()) {",
                "usesThatAreLetGoAreEventsByRisingUses"),
            in("for (long u : now) {", "for (long u : now.descendingSet()) {",
                "usesThatArePressedAreEventsByRisingUsesThen"),
            in("f.item.pressed = now;", "f.item.pressed.addAll(now);", "whatIsPressedNowIsPressedThen"),
            in("if (number - s.least < s.uses.size()) now.add(s.uses.get((int) (number - s.least)));",
                "if (number - s.least < s.uses.size() && !now.add(s.uses.get((int) (number - s.least))))\n"
                + "events.add(new long[] {0, 0, 1});", "aUseThatStandsSeveralTimesIsOne"),
            in(EVENT, EVENT.replace("events.get(0)", "events.get(events.size() - 1)"), "eventIsOfTheOldestOne"),
            in(EVENT, EVENT.replace("? NONE", "? 0"), "eventIsNoneWithoutAnEvent"),
            in(EVENT, EVENT.replace("? OUTSIDE", "? NONE"), "eventIsOutsideBelow0AndAbove2"),
            in("events.remove(0); return", "events.remove(events.size() - 1); return", "nextTakesTheOldestEvent"),
            in("if (events.isEmpty()) return NONE; events", "if (events.isEmpty()) return 0; events",
                "nextIsNoneWithoutAnEvent"),
            in(LAST, "return f.slot ? f.item.pressed.size() : Math.abs(f.last);", "lastIsTheLastNumberOfAValue"),
            in(LAST, "return f.slot ? f.item.fields.get(0) == f ? f.item.pressed.size() : 0 : f.last;",
                "lastIsHowManyUsesArePressedOfASlot"),
            in(LAST, "return f.slot ? f.item.pressed.size() : f.way == 0 ? f.last : f.wanted;", "lastIs0OfWays1And2"),
            in("return UNKNOWN;\n        Field f = shape.fields.get(i);\n        " + LAST,
                "return NONE;\n Field f = shape.fields.get(i);\n" + LAST, "lastIsUnknownWithoutSuchAField"));
    }

    static List<Broken> lettersToTheDevice() {
        return List.of(
            in("return was;", "return n;", "wantAnswersWhatItWasToBe"),
            in("f.least = now[1];", "f.least = now[1];\n f.wanted = Math.max(0, now[1]);",
                "wantIs0AtFirstAndWhenTheDeviceIsRead"),
            in(WANT_UNKNOWN, WANT_UNKNOWN.replace("UNKNOWN", "STATE"), "wantIsUnknownWithoutSuchAField"),
            in("if (f.slot || f.way == 0) return STATE;", "if (f.way == 0) return STATE;", "wantIsStateOfASlotAndOfWay0"),
            in("if (f.slot || f.way == 0) return STATE;", "if (f.slot) return STATE;", "wantIsStateOfASlotAndOfWay0"),
            in("n > f.most) return OUTSIDE;", "n >= f.most) return OUTSIDE;", "wantIsOutsideOutOfRange"),
            in("n > f.most) return OUTSIDE;", "n > f.most || n >= 1L << f.size) return OUTSIDE;",
                "wantIsOutsideOutOfRange"),
            in("if (f.way != way || f.id != id || f.slot) continue;", "if (f.way != way || f.slot) continue;",
                "madeIsWhatTheValuesAreToBe"),
            in("Math.floorMod(f.wanted, 1L << f.size)",
                "Math.min(Math.floorMod(f.wanted, 1L << 32), (1L << f.size) - 1)", "madeHasTheLowestSizeBitsOfEachValue"),
            in("if (bits.length == 0) return NONE;", "if (bits.length == 0) return NONE;\n java.util.Arrays.fill(bits, true);",
                "madeHas0ForBitsOfNoValue"),
            in("if (named()) bytes.add(id);", "if (id != 0) bytes.add(id);", "madeHasTheIdFirstIfAnyFieldHasOne"),
            in("return bytes.size();", "return bits.length / 8;", "madeOfMinus1IsHowManyBytes"),
            in("k >= bytes.size() ? NONE :", "k >= bytes.size() ? (k < 0 ? NONE : 0) :", "madeIsNoneWithoutSuchAByte"),
            in("if (bits.length == 0) return NONE;", "if (bits.length == 0) return k == -1 ? 0 : NONE;",
                "madeIsNoneWithoutBits"),
            in("if (way < 1 ||", "if (way < 0 ||", "madeIsOutsideByWayAndId"));
    }

    static List<Broken> countsAndImages() {
        return List.of(
            in(COUNTS, COUNTS.replace("{shape.fields", "{make().fields"), "count0IsHowManyFields"),
            in(COUNTS, COUNTS.replace("shape.groups", "make().groups"), "count1IsHowManyGroups"),
            in(COUNTS, COUNTS.replace("events.size()", "Math.min(100, events.size())"), "count2IsHowManyEventsWereNotTaken"),
            in(COUNTS, COUNTS.replace("program.size()", "items().size()"), "count3IsHowManyBytesOfTheProgram"),
            in(COUNTS, COUNTS.replace("letter.size()", "Math.min(32, letter.size())"), "count4IsHowManyBytesOfTheLetter"),
            in(COME_FULL, "if (before >= 100) { came++; return FULL; }", "count5IsHowManyLettersCameThatWereNotRefused"),
            in("shape = s;", "shape = s;\n came = 0;", "count5IsNotChangedByRead"),
            in(COUNTS, COUNTS.replace("told", "make().fault"), "count6IsTheFaultThatReadToldLast"),
            in(READ_FAULT, "if (s.fault != 0) told = s.fault;\n if (s.fault != 0) return FAULT;",
                "count6Is0IfNoFaultWasToldOrReadWasDone"),
            in(COUNTS, COUNTS.replace("kept", "Integer.bitCount(kept)"), "count7IsWhichImagesAreKept"),
            in("if (what < 0 || what > 7) return OUTSIDE;", "if (what < 0 || what > 7) return NONE;",
                "countIsOutsideBelow0AndAbove7"),
            in("images.set(k, new ArrayList<>(calls));", "images.set(k, calls);", "imageKeepsAllButImages"),
            in("images.set(k, new ArrayList<>(calls));", "if ((kept >> k & 1) == 0) images.set(k, new ArrayList<>(calls));",
                "imageIsInPlaceOfWhatWasKeptThere"),
            in(IMAGE_OUTSIDE, IMAGE_OUTSIDE.replace("OUTSIDE", "STATE"), "imageIsOutsideBelow0AndAbove1"),
            in("told = 0;\n        calls =", "told = 0;\n kept = 1 << k;\n calls =", "restoreBringsAllBackButImages"),
            in("calls = new ArrayList<>(images.get(k));", "calls = images.get(k);", "behindRestoreTheImageStays"),
            in(RESTORE_OUTSIDE, RESTORE_OUTSIDE.replace("OUTSIDE", "STATE"), "restoreIsOutsideBelow0AndAbove1"),
            in("(kept >> k & 1) == 0) return STATE;", "kept == 0) return STATE;", "restoreIsStateIfNothingWasKeptInIt"));
    }
}
