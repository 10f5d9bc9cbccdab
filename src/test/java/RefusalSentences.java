import java.util.ArrayList;
import java.util.Arrays;
import java.util.List;
import java.util.function.Consumer;
import java.util.function.Supplier;

/** How long an object is used, the order in which refusals are answered, and what they leave as it was. */
final class RefusalSentences implements Codes {
    private static final String FIRST_THAT_FITS =
        "Calls that are refused answer the first that fits, in the order in which they are told with the call";
    private static final String NONE_LAST = "NONE -6 is told only where no refusal fits.";
    private static final String NOTHING_CHANGES = "What is refused changes nothing";

    private RefusalSentences() {}

    @Told(in = "What it is", says = "An object is used for at most 512 calls after it has been made")
    static void the512thCallIsAnsweredLikeTheFirst(Bench b) {
        Trial x = b.fresh().most(100).size(8).many(1).in(VALUES).reads(1);
        int n = 0;
        while (x.calls() < 509) {
            n++;
            x.comes(n % 2 + 1).is(1);
            x.next().is(0);
        }
        x.count(5).is(n);
        while (x.calls() < 510) x.count(0).is(1);
        x.count(2).is(0);
        x.last(0).is(n % 2 + 1);
    }

    // The first that fits.

    @Told(in = "Terms", says = FIRST_THAT_FITS)
    static void sayIsOutsideAheadOfFull(Bench b) {
        Trial x = b.fresh().fill(96);
        x.say(256).is(OUTSIDE);
        x.say(-1).is(OUTSIDE);
    }

    @Told(in = "Terms", says = FIRST_THAT_FITS)
    static void itemIsOutsideAheadOfFull(Bench b) {
        Trial x = b.fresh().fill(96);
        x.item(3, 0, 0).is(OUTSIDE);
        x.item(0, 16, 0).is(OUTSIDE);
        x.item(0, 0, 32768).is(OUTSIDE);
    }

    @Told(in = "Terms", says = FIRST_THAT_FITS)
    static void fieldIsUnknownAheadOfOutside(Bench b) {
        b.fresh().field(0, 12).is(UNKNOWN);
        b.fresh().field(-1, -1).is(UNKNOWN);
    }

    @Told(in = "Terms", says = FIRST_THAT_FITS)
    static void putIsOutsideAheadOfFull(Bench b) {
        Trial x = b.fresh().puts(new int[33]);
        x.put(256).is(OUTSIDE);
        x.put(-1).is(OUTSIDE);
    }

    @Told(in = "Terms", says = FIRST_THAT_FITS)
    static void comeIsNoAheadOfFull(Bench b) {
        Trial x = hundredEvents(b);
        x.come().is(NO);
        x.comes(1).is(NO);
    }

    @Told(in = "Terms", says = FIRST_THAT_FITS)
    static void wantIsUnknownAheadOfTheOthers(Bench b) {
        Trial x = b.fresh().most(5).size(4).many(1).out(VALUES).in(VALUES).reads(2);
        x.want(2, 6).is(UNKNOWN);
        x.want(-1, -1).is(UNKNOWN);
        x.want(2, 0).is(UNKNOWN);
    }

    @Told(in = "Terms", says = FIRST_THAT_FITS)
    static void wantIsStateAheadOfOutside(Bench b) {
        Trial x = b.fresh().most(5).size(4).many(1).in(VALUES).out(SLOTS).reads(2);
        x.want(0, 6).is(STATE);
        x.want(0, -1).is(STATE);
        x.want(1, 6).is(STATE);
        x.want(1, -1).is(STATE);
    }

    @Told(in = "Terms", says = FIRST_THAT_FITS)
    static void restoreIsOutsideAheadOfState(Bench b) {
        b.fresh().restore(2).is(OUTSIDE);
        b.fresh().restore(-1).is(OUTSIDE);
    }

    // NONE behind all refusals.

    @Told(in = "Terms", says = NONE_LAST)
    static void groupIsOutsideAheadOfNone(Bench b) {
        b.fresh().group(0, 4).is(OUTSIDE);
        b.fresh().group(-1, -1).is(OUTSIDE);
    }

    @Told(in = "Terms", says = NONE_LAST)
    static void eventIsOutsideAheadOfNone(Bench b) {
        b.fresh().event(3).is(OUTSIDE);
        b.fresh().event(-1).is(OUTSIDE);
    }

    @Told(in = "Terms", says = NONE_LAST)
    static void madeIsOutsideAheadOfNone(Bench b) {
        b.fresh().made(0, 0, -2).is(OUTSIDE);
        b.fresh().made(3, 0, -1).is(OUTSIDE);
        b.fresh().made(1, 16, 0).is(OUTSIDE);
        b.fresh().made(2, -1, 0).is(OUTSIDE);
    }

    // What is refused changes nothing.

    @Told(in = "Terms", says = NOTHING_CHANGES)
    static void sayRefusedChangesNothing(Bench b) {
        staysAsItWas(() -> busy(b), x -> x.say(256).is(OUTSIDE));
        staysAsItWas(() -> busy(b), x -> x.say(-1).is(OUTSIDE));
        staysAsItWas(() -> busy(b).fill(96), x -> x.say(1).is(FULL));
    }

    @Told(in = "Terms", says = NOTHING_CHANGES)
    static void itemRefusedChangesNothing(Bench b) {
        staysAsItWas(() -> busy(b), x -> x.item(3, 0, 0).is(OUTSIDE));
        staysAsItWas(() -> busy(b), x -> x.item(0, 16, 0).is(OUTSIDE));
        staysAsItWas(() -> busy(b), x -> x.item(0, 0, 32768).is(OUTSIDE));
        staysAsItWas(() -> busy(b).fill(95), x -> x.item(1, 0, 1).is(FULL));
        staysAsItWas(() -> busy(b).fill(94), x -> x.item(1, 0, 300).is(FULL));
    }

    @Told(in = "Terms", says = NOTHING_CHANGES)
    static void questionsRefusedChangeNothing(Bench b) {
        staysAsItWas(() -> busy(b), x -> {
            x.fault(3).is(OUTSIDE);
            x.field(6, 0).is(UNKNOWN);
            x.field(0, 12).is(OUTSIDE);
            x.group(0, 4).is(OUTSIDE);
            x.length(3, 0).is(OUTSIDE);
            x.event(3).is(OUTSIDE);
            x.last(6).is(UNKNOWN);
            x.made(0, 3, 0).is(OUTSIDE);
            x.made(1, 16, 0).is(OUTSIDE);
            x.count(8).is(OUTSIDE);
        });
    }

    @Told(in = "Terms", says = NOTHING_CHANGES)
    static void putRefusedChangesNothing(Bench b) {
        staysAsItWas(() -> busy(b), x -> x.put(256).is(OUTSIDE));
        staysAsItWas(() -> busy(b), x -> x.put(-1).is(OUTSIDE));
        Trial x = b.fresh().least(-1).size(8).many(32).id(1).in(VALUES).reads(32).puts(1).puts(new int[32]);
        x.put(255).is(FULL);
        x.count(4).is(33);
        x.come().is(0);
    }

    @Told(in = "Terms", says = NOTHING_CHANGES)
    static void comeThatIsNoChangesNothingElse(Bench b) {
        staysAsItWas(() -> idle(b), x -> x.come().is(NO));
        staysAsItWas(() -> idle(b), x -> x.comes(3, 255).is(NO));
        staysAsItWas(() -> idle(b), x -> x.comes(4, 255, 255).is(NO));
    }

    @Told(in = "Terms", says = NOTHING_CHANGES)
    static void comeThatIsFullChangesNothing(Bench b) {
        Trial x = hundredEvents(b);
        int[] threes = bytes(20, 3);
        x.comes(threes).is(FULL);
        x.count(2).is(100);
        x.count(4).is(20);
        x.count(5).is(5);
        x.last(0).is(1);
        x.event(2).is(1);
        x.next().is(99);
        x.come().is(20);
        x.last(0).is(3);
    }

    @Told(in = "Terms", says = NOTHING_CHANGES)
    static void readRefusedChangesNothingElse(Bench b) {
        // The same FAULT was told before, so that what is told of it does not change.
        staysAsItWas(() -> busy(b), x -> x.read().is(FAULT));
    }

    @Told(in = "Terms", says = NOTHING_CHANGES)
    static void wantRefusedChangesNothing(Bench b) {
        staysAsItWas(() -> busy(b), x -> x.want(2, 6).is(OUTSIDE));
        staysAsItWas(() -> busy(b), x -> x.want(2, -5).is(OUTSIDE));
        staysAsItWas(() -> busy(b), x -> x.want(0, 1).is(STATE));
        staysAsItWas(() -> busy(b), x -> x.want(4, 1).is(STATE));
        staysAsItWas(() -> busy(b), x -> x.want(6, 1).is(UNKNOWN));
    }

    @Told(in = "Terms", says = NOTHING_CHANGES)
    static void imageRefusedChangesNothing(Bench b) {
        staysAsItWas(() -> busy(b), x -> x.image(2).is(OUTSIDE));
        staysAsItWas(() -> busy(b), x -> x.image(-1).is(OUTSIDE));
    }

    @Told(in = "Terms", says = NOTHING_CHANGES)
    static void restoreRefusedChangesNothing(Bench b) {
        staysAsItWas(() -> busy(b), x -> x.restore(2).is(OUTSIDE));
        staysAsItWas(() -> busy(b), x -> x.restore(-1).is(OUTSIDE));
        staysAsItWas(() -> busy(b), x -> x.restore(1).is(STATE));
    }

    @Told(in = "Terms", says = "but what is told of the FAULT")
    static void readRefusedTellsItsFault(Bench b) {
        Trial x = b.fresh().end();
        x.read().is(FAULT);
        x.count(6).is(10);
        x.wipe();
        x.pop().read().is(FAULT);
        x.count(6).is(7);
    }

    @Told(in = "Terms", says = "and that THE LETTER is empty if come() answers NO.")
    static void comeThatIsNoEmptiesTheLetter(Bench b) {
        Trial x = busy(b);
        x.count(4).is(2);
        x.come().is(NO);
        x.count(4).is(0);
        x.put(3).is(1);
    }

    // Devices, and all that can be seen of one.

    static int[] bytes(int many, int b) {
        int[] all = new int[many];
        Arrays.fill(all, b);
        return all;
    }

    /** 100 EVENTS of 20 VALUES, by five letters; the VALUES are 1. */
    static Trial hundredEvents(Bench b) {
        Trial x = b.fresh().most(100).size(8).many(20).in(VALUES).reads(20);
        for (int n : new int[] {1, 2, 1, 2, 1}) x.comes(bytes(20, n)).is(20);
        x.count(2).is(100);
        return x;
    }

    /** FIELDS of all WAYS in GROUPS, EVENTS, a FAULT that was told, the first IMAGE; THE LETTER is empty. */
    private static Trial idle(Bench b) {
        Trial x = b.fresh().id(3).least(-4).most(5).size(4).many(2).page(2).use(7).begin(1).use(8).use(9).in(VALUES);
        x.begin(4).out(VALUES).end().end().use(6).use(5).many(1).in(SLOTS).both(SLOTS).reads(6);
        x.image(0).is(1);
        x.comes(3, 0x21, 0x0c).is(3);
        x.want(2, 5).is(0);
        x.want(3, -3).is(0);
        x.says(5).read().is(FAULT);
        return x;
    }

    /** The same, and two BYTES of a letter that needs three. */
    private static Trial busy(Bench b) {
        return idle(b).puts(3, 0x54);
    }

    private static void staysAsItWas(Supplier<Trial> device, Consumer<Trial> refused) {
        Trial asked = device.get();
        refused.accept(asked);
        List<Trial.Answer> without = view(device.get()), with = view(asked);
        for (int i = 0; i < without.size(); i++) {
            if (without.get(i).got() != with.get(i).got()) {
                throw new NotAsDue("behind a refused call " + with.get(i).call() + " answered " + with.get(i).got()
                    + ", without it " + without.get(i).got());
            }
        }
    }

    private static List<Trial.Answer> view(Trial x) {
        List<Trial.Answer> seen = new ArrayList<>();
        for (int what = 0; what <= 7; what++) seen.add(x.count(what));
        for (int what = 0; what <= 2; what++) seen.add(x.fault(what));
        for (int i = 0; i <= 20; i++) {
            for (int k = -1; k <= 7; k += 4) seen.add(x.written(i, k));
        }
        for (int f = 0; f <= 6; f++) {
            for (int what = 0; what <= 11; what++) seen.add(x.field(f, what));
            seen.add(x.last(f));
        }
        for (int what = 0; what <= 3; what++) {
            seen.add(x.group(0, what));
            seen.add(x.group(1, what));
        }
        for (int id = 0; id <= 3; id++) {
            for (int way = 0; way <= 2; way++) seen.add(x.length(way, id));
        }
        for (int k = -1; k <= 2; k++) seen.add(x.made(1, 3, k));
        seen.add(x.want(2, 0));
        seen.add(x.want(3, 0));
        seeEvents(x, seen);
        // Whether THE LETTER is empty or has two BYTES, one of these two has its three BYTES.
        seen.add(x.comes(15));
        seen.add(x.comes(3, 0x11, 0x0d));
        seeEvents(x, seen);
        seen.add(x.restore(1));
        seen.add(x.restore(0));
        for (int what = 0; what <= 7; what++) seen.add(x.count(what));
        seeEvents(x, seen);
        return seen;
    }

    private static void seeEvents(Trial x, List<Trial.Answer> seen) {
        for (int i = 0; i < 6; i++) {
            for (int what = 0; what <= 2; what++) seen.add(x.event(what));
            seen.add(x.next());
        }
    }
}
