import java.util.Random;

/** Runs of calls made by a seeded generator, answered by the class and by the model alike. */
public final class ModelTest {
    private static final int RUNS = 6000;
    private static final int CALLS_OF_A_RUN = 512;
    private static final String[] NAMES = {"say", "wipe", "item", "read", "fault", "written", "field", "group",
        "length", "put", "come", "event", "next", "last", "want", "made", "count", "image", "restore"};

    private final Random random;
    private final int run;
    private final Face x = new OfClass();
    private final Face model = new ShapeReportsModel();
    private int calls = 0;
    private boolean wrong = false;
    // What the runs reached, so that a generator that tests nothing is seen.
    private static int shapesRead = 0, lettersCame = 0, eventsTold = 0, comeFull = 0, restored = 0;
    private static final int[] faults = new int[17];

    private ModelTest(int run) {
        this.run = run;
        random = new Random(run);
    }

    public static void main(String[] args) {
        int wrongRuns = 0;
        for (int run = 0; run < RUNS; run++) {
            ModelTest test = new ModelTest(run);
            test.play();
            if (test.wrong) wrongRuns++;
        }
        for (int f = 1; f <= 16; f++) {
            if (faults[f] == 0) {
                System.out.println("no run reached fault " + f);
                wrongRuns++;
            }
        }
        if (shapesRead == 0 || lettersCame == 0 || eventsTold == 0 || comeFull == 0 || restored == 0) {
            System.out.println("the runs reach too little");
            wrongRuns++;
        }
        System.out.println(shapesRead + " shapes read, " + lettersCame + " letters came, " + eventsTold
            + " events told, " + comeFull + " letters refused as full, " + restored + " images restored");
        System.out.println(wrongRuns == 0 ? "class and model agree" : wrongRuns + " runs are wrong");
        if (wrongRuns != 0) System.exit(1);
    }

    private static int answerOf(Face face, int c, int p, int q, int r) {
        switch (c) {
            case 0: return face.say(p);
            case 1: return face.wipe();
            case 2: return face.item(p, q, r);
            case 3: return face.read();
            case 4: return face.fault(p);
            case 5: return face.written(p, q);
            case 6: return face.field(p, q);
            case 7: return face.group(p, q);
            case 8: return face.length(p, q);
            case 9: return face.put(p);
            case 10: return face.come();
            case 11: return face.event(p);
            case 12: return face.next();
            case 13: return face.last(p);
            case 14: return face.want(p, q);
            case 15: return face.made(p, q, r);
            case 16: return face.count(p);
            case 17: return face.image(p);
            default: return face.restore(p);
        }
    }

    /** What the model tells when the class is not asked; it changes nothing. */
    private int ask(int c, int p, int q, int r) {
        return answerOf(model, c, p, q, r);
    }

    private int call(int c, int p, int q, int r) {
        int due = answerOf(model, c, p, q, r);
        // What calls behind these answer is free.
        if (calls == CALLS_OF_A_RUN) return due;
        int got = answerOf(x, c, p, q, r);
        calls++;
        if (got != due && !wrong) {
            wrong = true;
            System.out.println("run " + run + ", call " + calls + ": " + NAMES[c] + "(" + p + ", " + q + ", " + r
                + ") answered " + got + ", due is " + due);
        }
        if (c == 3 && due >= 0) shapesRead++;
        if (c == 4 && p == 0 && due > 0) faults[due]++;
        if (c == 10 && due >= 0) lettersCame++;
        if (c == 10 && due > 0) eventsTold += due;
        if (c == 10 && due == ShapeReportsModel.FULL) comeFull++;
        if (c == 18 && due == 1) restored++;
        return due;
    }

    private int below(int n) {
        return random.nextInt(n);
    }

    private boolean goesOn() {
        return calls < CALLS_OF_A_RUN && !wrong;
    }

    private void play() {
        boolean drains = random.nextBoolean();
        while (goesOn()) {
            call(1, 0, 0, 0);
            int kind = below(8);
            if (kind == 0) noise();
            else if (kind == 1) manyGroups();
            else if (kind == 2) manyLetters();
            else program();
            call(4, 0, 0, 0);
            call(4, 1, 0, 0);
            call(4, 2, 0, 0);
            for (int i = below(6); i > 0; i--) call(5, below(30) - 1, below(14) - 2, 0);
            call(3, 0, 0, 0);
            call(16, 6, 0, 0);
            if (random.nextBoolean()) look();
            for (int i = below(25); i > 0 && goesOn(); i--) use(drains);
            if (random.nextBoolean()) look();
        }
    }

    private void noise() {
        int bytes = below(8) == 0 ? 98 : 1 + below(20);
        for (int i = 0; i < bytes && goesOn(); i++) call(0, below(60) == 0 ? 256 - 257 * below(2) : below(256), 0, 0);
    }

    private void manyGroups() {
        for (int i = 0; i < 11 + below(3) && goesOn(); i++) {
            call(2, 0, 10, below(4));
            if (below(3) == 0) call(2, 0, 12, 0);
        }
        if (random.nextBoolean()) while (goesOn() && ask(4, 0, 0, 0) == 15) call(2, 0, 12, 0);
    }

    /** Slots and values that change with nearly each letter, so that events pile up. */
    private void manyLetters() {
        call(2, 1, 2, 31);
        call(2, 1, 7, 5);
        call(2, 1, 9, 20 + below(5));
        call(2, 2, 2, 31);
        call(2, 0, 8, 0);
        if (random.nextBoolean()) call(2, 0, 8, 2);
        call(3, 0, 0, 0);
        for (int i = 0; i < 5 && goesOn(); i++) {
            int bytes = (ask(8, 0, 0, 0) + 7) / 8;
            for (int k = 0; k < bytes && goesOn(); k++) call(9, below(256), 0, 0);
            call(10, 0, 0, 0);
            call(16, 2, 0, 0);
        }
    }

    private void program() {
        boolean named = random.nextBoolean();
        if (named) call(2, 1, 8, 1 + below(4));
        call(2, 1, 7, 1 + below(9));
        call(2, 1, 9, 1 + below(5));
        call(2, 1, 2, 1 + below(120));
        for (int i = 2 + below(22); i > 0 && goesOn(); i--) programItem(named);
        for (int i = 0; i < 12 && below(8) != 0 && goesOn() && ask(4, 0, 0, 0) == 15; i++) call(2, 0, 12, 0);
    }

    private void programItem(boolean named) {
        switch (below(20)) {
            case 0: call(2, 1, 0, below(300)); break;
            case 1: call(2, 1, 1, below(3) == 0 ? below(5) : -below(300)); break;
            case 2: call(2, 1, 2, below(300)); break;
            case 3: call(2, 1, 7, 1 + below(below(6) == 0 ? 32 : 9)); break;
            case 4: if (named || below(8) == 0) call(2, 1, 8, 1 + below(below(10) == 0 ? 16 : 4)); break;
            case 5: call(2, 1, 9, 1 + below(below(6) == 0 ? 41 : 6)); break;
            case 6: call(2, 1, 10, below(2)); break;
            case 7: call(2, 1, 10 + below(2), 0); break;
            case 8: call(2, 2, 1, below(20)); break;
            case 9: call(2, 2, 2, below(40)); break;
            case 10: call(2, 0, 10, below(3)); break;
            case 11: call(2, 0, 12, 0); break;
            case 12: wide(); break;
            case 13: call(2, below(4), below(17), below(400) - 200); break;
            case 14: case 15: case 16: call(2, 2, 0, below(12)); break;
            default: call(2, 0, new int[] {8, 8, 9, 11}[below(4)], below(8)); break;
        }
    }

    /** An item with four bytes, at the ends of what they can tell. */
    private void wide() {
        int[] tags = {1 * 4, 1 * 16 + 4, 2 * 16 + 4, 8, 16 + 8, 2 * 16 + 8, 8 * 16, 10 * 16};
        int[] numbers = {0, 255, 128, 127, 1};
        call(0, tags[below(tags.length)] + 3, 0, 0);
        boolean all = below(12) != 0;
        for (int i = 0; i < (all ? 4 : 2); i++) call(0, numbers[below(numbers.length)], 0, 0);
    }

    private void use(boolean drains) {
        switch (below(12)) {
            case 0: case 1: case 2: case 3: letter(); break;
            case 4: drain(drains); break;
            case 5: case 6: want(); break;
            case 7: call(17, below(9) == 0 ? 2 - 3 * below(2) : below(2), 0, 0); break;
            case 8: if (below(2) == 0) call(18, below(9) == 0 ? 2 - 3 * below(2) : below(2), 0, 0); break;
            case 9: call(13, below(20) - 1, 0, 0); break;
            case 10: call(11, below(5) - 1, 0, 0); break;
            default: call(16, below(10) - 1, 0, 0); break;
        }
    }

    private void letter() {
        int id = ask(6, 0, 1, 0) > 0 ? ask(6, below(Math.max(1, ask(16, 0, 0, 0))), 1, 0) : 0;
        boolean named = id > 0;
        int bits = ask(8, 0, Math.max(0, id), 0);
        int bytes = (bits + 7) / 8 + (below(15) == 0 ? below(3) - 1 : 0);
        boolean small = random.nextBoolean();
        if (named) call(9, below(15) == 0 ? below(20) : id, 0, 0);
        for (int i = 0; i < bytes && goesOn(); i++) call(9, small ? below(5) : below(40) == 0 ? 256 : below(256), 0, 0);
        call(10, 0, 0, 0);
    }

    private void drain(boolean whole) {
        for (int i = whole ? 12 : 1; i > 0 && goesOn(); i--) {
            call(11, below(3), 0, 0);
            call(12, 0, 0, 0);
        }
    }

    private void want() {
        int f = below(Math.max(1, ask(16, 0, 0, 0)) + 2) - 1;
        int[] numbers = {ask(6, f, 4, 0), ask(6, f, 5, 0), below(100), -below(100),
            ask(6, f, 5, 0) + 1, ask(6, f, 4, 0) - 1};
        call(14, f, numbers[below(numbers.length)], 0);
        int way = ask(6, f, 0, 0), id = ask(6, f, 1, 0);
        int bytes = ask(15, way, id, -1);
        call(15, way, id, -1);
        for (int k = 0; k <= bytes && goesOn(); k++) call(15, way, id, k);
        call(15, below(4), below(18) - 1, below(5) - 2);
    }

    private void look() {
        int f = below(Math.max(1, ask(16, 0, 0, 0)) + 2) - 1;
        for (int what = -1; what <= 12 && goesOn(); what++) call(6, f, what, 0);
        int g = below(6) - 1;
        for (int what = -1; what <= 4 && goesOn(); what++) call(7, g, what, 0);
        for (int i = 0; i < 4 && goesOn(); i++) call(8, below(5) - 1, below(18) - 1, 0);
        for (int what = 0; what <= 7 && goesOn(); what++) call(16, what, 0, 0);
    }
}
