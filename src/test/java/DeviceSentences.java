/** Promises 16 to 20: letters to the device, counts, images. */
final class DeviceSentences implements Codes {
    private static final String P16 = "Promise 16", P17 = "Promise 17", P18 = "Promise 18", P19 = "Promise 19";
    private static final String P20 = "Promise 20";

    private DeviceSentences() {}

    /** VALUES of WAY 1, of so many BITS each, LEAST to MOST. */
    private static Trial values(Bench b, int many, int size, int least, int most) {
        return b.fresh().wide(1, 1, least).wide(1, 2, most).size(size).many(many).out(VALUES).reads(many);
    }

    // Promise 16: want.

    @Told(in = P16, says = "A VALUE of WAY 1 or 2 is to be n: what it was to be")
    static void wantAnswersWhatItWasToBe(Bench b) {
        Trial x = b.fresh().least(-5).most(9).size(8).many(2).out(VALUES).both(STEPS).reads(4);
        for (int f = 0; f < 4; f++) x.want(f, f + 1).is(0);
        for (int f = 0; f < 4; f++) x.want(f, -f).is(f + 1);
        for (int f = 0; f < 4; f++) x.want(f, -f).is(-f);
    }

    @Told(in = P16, says = "(0 at first, and when the device is read)")
    static void wantIs0AtFirstAndWhenTheDeviceIsRead(Bench b) {
        // Though 0 is not IN RANGE.
        Trial x = values(b, 1, 8, 5, 9);
        x.made(1, 0, 0).is(0);
        x.want(0, 7).is(0);
        x.reads(1).want(0, 6).is(0);
        x.end().read().is(FAULT);
        x.want(0, 9).is(6);
    }

    @Told(in = P16, says = "UNKNOWN;")
    static void wantIsUnknownWithoutSuchAField(Bench b) {
        b.fresh().want(0, 0).is(UNKNOWN);
        Trial x = values(b, 2, 8, 0, 9);
        x.want(1, 0).is(0);
        for (int f : new int[] {-1, 2, 48, LOWEST, HIGHEST}) x.want(f, 0).is(UNKNOWN);
    }

    @Told(in = P16, says = "STATE: it is a SLOT, or of WAY 0;")
    static void wantIsStateOfASlotAndOfWay0(Bench b) {
        Trial x = b.fresh().most(9).size(8).many(1).in(VALUES).in(SLOTS).in(STEPS).out(SLOTS).both(SLOTS);
        x.out(VALUES).both(VALUES).reads(7);
        for (int f = 0; f < 5; f++) x.want(f, 1).is(STATE);
        x.want(5, 1).is(0);
        x.want(6, 1).is(0);
    }

    @Told(in = P16, says = "OUTSIDE: n is not IN RANGE.")
    static void wantIsOutsideOutOfRange(Bench b) {
        Trial x = values(b, 1, 2, -3, 100);
        for (int n : new int[] {-4, 101, LOWEST, HIGHEST}) x.want(0, n).is(OUTSIDE);
        x.want(0, -3).is(0);
        // More than two BITS can tell, but IN RANGE.
        x.want(0, 100).is(-3);
        x.want(0, 0).is(100);
        Trial y = values(b, 1, 31, LOWEST, HIGHEST);
        y.want(0, LOWEST).is(0);
        y.want(0, HIGHEST).is(LOWEST);
        Trial z = values(b, 1, 8, 7, 7);
        z.want(0, 6).is(OUTSIDE);
        z.want(0, 8).is(OUTSIDE);
        z.want(0, 7).is(0);
    }

    // Promise 17: made.

    private static void madeIs(Trial x, int way, int id, int... bytes) {
        x.made(way, id, -1).is(bytes.length);
        for (int k = 0; k < bytes.length; k++) x.made(way, id, k).is(bytes[k]);
    }

    @Told(in = P17, says = "BYTE k, from 0 on, of the LETTER of WAY 1 or 2 and an ID (0 to 15), made of what its VALUES are "
        + "to be")
    static void madeIsWhatTheValuesAreToBe(Bench b) {
        Trial x = b.fresh().most(100).size(8).many(2).out(VALUES).both(VALUES).reads(4);
        for (int f = 0; f < 4; f++) x.want(f, 21 + f).is(0);
        madeIs(x, 1, 0, 21, 22);
        madeIs(x, 2, 0, 23, 24);
        Trial y = b.fresh().most(100).size(8).many(1).id(1).out(VALUES).id(15).out(VALUES).both(VALUES).reads(3);
        for (int f = 0; f < 3; f++) y.want(f, 31 + f).is(0);
        madeIs(y, 1, 1, 1, 31);
        madeIs(y, 1, 15, 15, 32);
        madeIs(y, 2, 15, 15, 33);
    }

    @Told(in = P17, says = "(of each the lowest SIZE BITS, two's complement below 0;")
    static void madeHasTheLowestSizeBitsOfEachValue(Bench b) {
        Trial x = values(b, 3, 3, LOWEST, HIGHEST);
        x.want(1, 0x7ffffff8 + 2);
        madeIs(x, 1, 0, 2 << 3, 0);
        x.want(1, -1);
        madeIs(x, 1, 0, 7 << 3, 0);
        x.want(1, -8);
        madeIs(x, 1, 0, 0, 0);
        x.want(2, -3);
        madeIs(x, 1, 0, 64, 1);
        x.want(2, LOWEST);
        madeIs(x, 1, 0, 0, 0);
        Trial y = values(b, 1, 31, LOWEST, HIGHEST);
        y.want(0, HIGHEST);
        madeIs(y, 1, 0, 255, 255, 255, 127);
        y.want(0, -1);
        madeIs(y, 1, 0, 255, 255, 255, 127);
        y.want(0, -(1 << 30));
        madeIs(y, 1, 0, 0, 0, 0, 64);
        y.want(0, LOWEST);
        madeIs(y, 1, 0, 0, 0, 0, 0);
        Trial z = values(b, 2, 1, -1, 0);
        z.want(1, -1);
        madeIs(z, 1, 0, 2);
    }

    @Told(in = P17, says = "BITS that are of no VALUE are 0)")
    static void madeHas0ForBitsOfNoValue(Bench b) {
        Trial x = b.fresh().least(-1).most(99).size(4).many(1).use(5).out(SLOTS).out(VALUES).out(NO_FIELDS);
        x.out(VALUES).out(SLOTS).size(3).out(VALUES).reads(5);
        for (int f : new int[] {1, 2, 4}) x.want(f, -1).is(0);
        madeIs(x, 1, 0, 0xf0, 0xf0, 0x70);
        Trial y = b.fresh().size(8).many(2).out(NO_FIELDS).both(SLOTS).reads(2);
        madeIs(y, 1, 0, 0, 0);
        madeIs(y, 2, 0, 0, 0);
    }

    @Told(in = P17, says = "with the ID as its first BYTE, if any FIELD has an ID other than 0;")
    static void madeHasTheIdFirstIfAnyFieldHasOne(Bench b) {
        Trial x = b.fresh().size(8).many(1).out(NO_FIELDS).id(7).both(NO_FIELDS).id(9).in(SLOTS).reads(1);
        madeIs(x, 1, 0, 0, 0);
        madeIs(x, 2, 7, 7, 0);
        // An ID of BITS alone is no FIELD's.
        Trial y = b.fresh().most(99).size(8).many(1).out(VALUES).id(7).both(NO_FIELDS).reads(1);
        y.want(0, 88);
        madeIs(y, 1, 0, 88);
        madeIs(y, 2, 7, 0);
    }

    @Told(in = P17, says = "k = -1: how many BYTES, the ID with them;")
    static void madeOfMinus1IsHowManyBytes(Bench b) {
        int[] bits = {1, 7, 8, 9, 16, 17, 31}, bytes = {1, 1, 1, 2, 2, 3, 4};
        for (int i = 0; i < bits.length; i++) {
            values(b, 1, bits[i], 0, 1).made(1, 0, -1).is(bytes[i]);
            b.fresh().size(bits[i]).many(1).id(2).both(VALUES).reads(1).made(2, 2, -1).is(bytes[i] + 1);
        }
        values(b, 32, 8, 0, 1).made(1, 0, -1).is(32);
        b.fresh().size(8).many(32).id(2).both(VALUES).reads(32).made(2, 2, -1).is(33);
    }

    @Told(in = P17, says = "NONE: there is none such (k below -1, too)")
    static void madeIsNoneWithoutSuchAByte(Bench b) {
        Trial x = values(b, 2, 8, 0, 1);
        x.made(1, 0, 1).is(0);
        for (int k : new int[] {2, 3, -2, -3, LOWEST, HIGHEST}) x.made(1, 0, k).is(NONE);
        Trial y = b.fresh().size(8).many(2).id(2).out(VALUES).reads(2);
        y.made(1, 2, 2).is(0);
        for (int k : new int[] {3, 4, -2, LOWEST, HIGHEST}) y.made(1, 2, k).is(NONE);
    }

    @Told(in = P17, says = "or the LETTER has no BITS (whatever k is).")
    static void madeIsNoneWithoutBits(Bench b) {
        int[] all = {-2, -1, 0, 1, LOWEST, HIGHEST};
        Trial x = b.fresh().size(8).many(1).id(2).in(VALUES).out(VALUES).reads(2);
        for (int k : all) {
            b.fresh().made(1, 0, k).is(NONE);
            x.made(1, 0, k).is(NONE);
            x.made(1, 3, k).is(NONE);
            x.made(2, 2, k).is(NONE);
            x.made(2, 15, k).is(NONE);
        }
    }

    @Told(in = P17, says = "OUTSIDE: the WAY, the ID.")
    static void madeIsOutsideByWayAndId(Bench b) {
        Trial x = b.fresh().size(8).many(1).in(VALUES).out(VALUES).both(VALUES).reads(3);
        for (int way : new int[] {-1, 0, 3, LOWEST, HIGHEST}) {
            x.made(way, 0, 0).is(OUTSIDE);
            x.made(way, 0, -1).is(OUTSIDE);
        }
        for (int id : new int[] {-1, 16, LOWEST, HIGHEST}) {
            x.made(1, id, 0).is(OUTSIDE);
            x.made(2, id, -1).is(OUTSIDE);
        }
        x.made(1, 15, 0).is(NONE);
        x.made(2, 0, 0).is(0);
    }

    // Promise 18: count.

    @Told(in = P18, says = "How many FIELDS (what = 0)")
    static void count0IsHowManyFields(Bench b) {
        Trial x = b.fresh();
        x.count(0).is(0);
        x.size(1).many(24).in(VALUES).out(SLOTS).count(0).is(0);
        x.reads(48).count(0).is(48);
        x.wipe();
        x.reads(0).count(0).is(0);
    }

    @Told(in = P18, says = "GROUPS (1)")
    static void count1IsHowManyGroups(Bench b) {
        Trial x = b.fresh();
        x.count(1).is(0);
        for (int g = 0; g < 12; g++) x.begin(0).end();
        x.count(1).is(0);
        x.reads(0).count(1).is(12);
        x.wipe();
        x.reads(0).count(1).is(0);
    }

    @Told(in = P18, says = "EVENTS that were not taken (2)")
    static void count2IsHowManyEventsWereNotTaken(Bench b) {
        Trial x = RefusalSentences.hundredEvents(b);
        x.count(2).is(100);
        x.next().is(99);
        x.comes(RefusalSentences.bytes(20, 3)).is(20);
        x.count(2).is(119);
        for (int left = 118; left >= 0; left--) x.next().is(left);
        x.count(2).is(0);
    }

    @Told(in = P18, says = "BYTES of THE PROGRAM (3)")
    static void count3IsHowManyBytesOfTheProgram(Bench b) {
        Trial x = b.fresh();
        x.count(3).is(0);
        x.page(1).count(3).is(2);
        x.fill(96).count(3).is(96);
        x.wipe();
        x.count(3).is(0);
    }

    @Told(in = P18, says = "of THE LETTER (4)")
    static void count4IsHowManyBytesOfTheLetter(Bench b) {
        Trial x = b.fresh();
        x.count(4).is(0);
        x.puts(1, 2).count(4).is(2);
        x.puts(new int[31]).count(4).is(33);
        x.come().is(NO);
        x.count(4).is(0);
    }

    @Told(in = P18, says = "LETTERS that came, not refused (5;")
    static void count5IsHowManyLettersCameThatWereNotRefused(Bench b) {
        Trial x = RefusalSentences.hundredEvents(b);
        x.count(5).is(5);
        x.come().is(NO);
        x.comes(1).is(NO);
        x.comes(new int[20]).is(FULL);
        x.count(5).is(5);
        x.next().is(99);
        x.come().is(20);
        x.count(5).is(6);
        for (int left = 118; left >= 99; left--) x.next().is(left);
        // Without news it came, too.
        x.comes(new int[20]).is(0);
        x.count(5).is(7);
    }

    @Told(in = P18, says = "read() does not change this)")
    static void count5IsNotChangedByRead(Bench b) {
        Trial x = b.fresh().most(9).size(8).many(1).in(VALUES).reads(1);
        x.comes(1).is(1);
        x.comes(2).is(1);
        x.reads(1).count(5).is(2);
        x.wipe();
        x.reads(0).count(5).is(2);
        x.end().read().is(FAULT);
        x.count(5).is(2);
    }

    @Told(in = P18, says = "the number of THE FAULT that read() told last (6;")
    static void count6IsTheFaultThatReadToldLast(Bench b) {
        Trial x = b.fresh().end();
        x.read().is(FAULT);
        x.count(6).is(10);
        x.wipe();
        x.begin(0).read().is(FAULT);
        x.count(6).is(15);
        // That read() told, not what is so now.
        x.end().fault(0).is(0);
        x.count(6).is(15);
        x.pop().fault(0).is(7);
        x.count(6).is(15);
    }

    @Told(in = P18, says = "0: none was, or the last read() was done)")
    static void count6Is0IfNoFaultWasToldOrReadWasDone(Bench b) {
        Trial x = b.fresh();
        x.count(6).is(0);
        x.end().fault(0).is(10);
        x.count(6).is(0);
        x.read().is(FAULT);
        x.wipe();
        x.count(6).is(10);
        x.reads(0).count(6).is(0);
    }

    @Told(in = P18, says = "which IMAGES are kept (7: 1 the first, 2 the second, added).")
    static void count7IsWhichImagesAreKept(Bench b) {
        Trial x = b.fresh();
        x.count(7).is(0);
        x.image(0);
        x.count(7).is(1);
        x.image(0);
        x.count(7).is(1);
        x.image(1);
        x.count(7).is(3);
        x.restore(0);
        x.count(7).is(3);
        Trial y = b.fresh();
        y.image(1);
        y.count(7).is(2);
        y.restore(1);
        y.count(7).is(2);
        y.image(0);
        y.count(7).is(3);
    }

    @Told(in = P18, says = "added). OUTSIDE.")
    static void countIsOutsideBelow0AndAbove7(Bench b) {
        Trial x = b.fresh();
        x.count(7).is(0);
        for (int what : new int[] {-1, 8, 9, LOWEST, HIGHEST}) x.count(what).is(OUTSIDE);
    }

    // Promise 19: image.

    /** A VALUE and a SLOT of WAY 0, a VALUE of WAY 1, in a GROUP, with LAST NUMBERS, EVENTS and the rest. */
    private static Trial busy(Bench b) {
        Trial x = b.fresh().most(9).size(8).many(1).begin(4).in(VALUES).use(3).in(SLOTS).out(VALUES).end().reads(3);
        x.comes(7, 0).is(2);
        x.want(2, 5).is(0);
        x.puts(8);
        x.pop().read().is(FAULT);
        return x;
    }

    /** All of busy() is another one. */
    private static void upset(Trial x) {
        x.wipe();
        x.comes(9).is(2);
        x.next();
        x.want(2, 6);
        x.size(1).many(1).id(1).out(VALUES).begin(0).end().begin(0).end().reads(1);
        x.puts(1, 2, 3);
        x.end().end().read().is(FAULT);
    }

    private static void isBusy(Trial x, int kept) {
        int[] counts = {3, 1, 2, 17, 1, 1, 7, kept};
        for (int what = 0; what <= 7; what++) x.count(what).is(counts[what]);
        x.writes(0, "most 9");
        x.writes(9, "pop");
        x.hasField(0, 0, 0, 0, 8, 0, 9, 0, 0, 0, 1, 0, 0);
        x.hasField(2, 1, 0, 0, 8, 0, 9, 0, 0, 0, 1, 0, 0);
        x.group(0, 0).is(4);
        x.group(0, 3).is(3);
        x.length(0, 0).is(16);
        x.length(1, 0).is(8);
        x.length(1, 1).is(0);
        x.last(0).is(7);
        x.last(1).is(1);
        x.made(1, 0, 0).is(5);
        x.comes(0).is(1);
        x.tells(0, 0, 7).tells(1, 3, 1).tells(0, 0, 8).tellsNoMore();
    }

    @Told(in = P19, says = "All but IMAGES is kept in an IMAGE (0, 1)")
    static void imageKeepsAllButImages(Bench b) {
        for (int k = 0; k <= 1; k++) {
            Trial x = busy(b);
            x.image(k).is(1);
            upset(x);
            x.restore(k).is(1);
            isBusy(x, k + 1);
        }
    }

    @Told(in = P19, says = "in place of what was kept there: 1.")
    static void imageIsInPlaceOfWhatWasKeptThere(Bench b) {
        for (int k = 0; k <= 1; k++) {
            Trial x = b.fresh().page(1);
            x.image(k).is(1);
            x.image(1 - k).is(1);
            x.page(2).image(k).is(1);
            x.wipe();
            x.restore(k).is(1);
            x.count(3).is(4);
            // The other one is as it was.
            x.restore(1 - k).is(1);
            x.count(3).is(2);
        }
    }

    @Told(in = P19, says = "OUTSIDE.")
    static void imageIsOutsideBelow0AndAbove1(Bench b) {
        Trial x = b.fresh();
        for (int k : new int[] {-1, 2, 3, LOWEST, HIGHEST}) x.image(k).is(OUTSIDE);
        x.image(0).is(1);
        x.image(1).is(1);
    }

    // Promise 20: restore.

    @Told(in = P20, says = "All but IMAGES is as it was when it was kept;")
    static void restoreBringsAllBackButImages(Bench b) {
        Trial x = busy(b);
        x.image(0).is(1);
        upset(x);
        x.image(1).is(1);
        x.restore(0).is(1);
        isBusy(x, 3);
        // The second one was not touched by it.
        x.restore(1).is(1);
        x.count(4).is(3);
        x.count(1).is(2);
    }

    @Told(in = P20, says = "the IMAGE stays: 1.")
    static void behindRestoreTheImageStays(Bench b) {
        Trial x = busy(b);
        x.image(1).is(1);
        for (int again = 0; again < 3; again++) {
            upset(x);
            x.restore(1).is(1);
            isBusy(x, 2);
            x.restore(1).is(1);
        }
    }

    @Told(in = P20, says = "OUTSIDE;")
    static void restoreIsOutsideBelow0AndAbove1(Bench b) {
        Trial x = b.fresh();
        x.image(0).is(1);
        x.image(1).is(1);
        for (int k : new int[] {-1, 2, 3, LOWEST, HIGHEST}) x.restore(k).is(OUTSIDE);
        x.restore(1).is(1);
    }

    @Told(in = P20, says = "STATE: nothing was kept in it.")
    static void restoreIsStateIfNothingWasKeptInIt(Bench b) {
        for (int k = 0; k <= 1; k++) {
            Trial x = b.fresh();
            x.restore(k).is(STATE);
            x.image(1 - k).is(1);
            x.restore(k).is(STATE);
            x.restore(1 - k).is(1);
            x.restore(k).is(STATE);
            x.image(k).is(1);
            x.restore(k).is(1);
        }
    }
}
