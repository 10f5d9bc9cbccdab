/**
 * An object under test, with calls whose answers can be checked at once: x.say(5).is(1).
 * It refuses more calls than the document promises anything about, so that no test asks for more.
 */
final class Trial implements Codes {
    private static final int MOST_CALLS = 512;

    private final Face face;
    private int calls = 0;

    /** What a call answered. */
    record Answer(String call, int number, int got) {
        void is(int due) {
            if (got != due) {
                throw new NotAsDue(call + ", call " + number + " of its object, answered " + got + ", due is " + due);
            }
        }

        private void isNotRefused() {
            if (got < 0) throw new NotAsDue(call + ", call " + number + " of its object, answered " + got);
        }
    }

    Trial(Face face) {
        this.face = face;
    }

    private Answer answer(int got, String name, int... with) {
        calls++;
        if (calls > MOST_CALLS) throw new IllegalStateException("the test makes too many calls of one object");
        StringBuilder text = new StringBuilder(name).append('(');
        for (int i = 0; i < with.length; i++) text.append(i == 0 ? "" : ", ").append(with[i]);
        return new Answer(text.append(')').toString(), calls, got);
    }

    int calls() {
        return calls;
    }

    // The calls of the document.

    Answer say(int b) { return answer(face.say(b), "say", b); }

    Answer wipe() { return answer(face.wipe(), "wipe"); }

    Answer item(int sort, int tag, int n) { return answer(face.item(sort, tag, n), "item", sort, tag, n); }

    Answer read() { return answer(face.read(), "read"); }

    Answer fault(int what) { return answer(face.fault(what), "fault", what); }

    Answer written(int i, int k) { return answer(face.written(i, k), "written", i, k); }

    Answer field(int f, int what) { return answer(face.field(f, what), "field", f, what); }

    Answer group(int g, int what) { return answer(face.group(g, what), "group", g, what); }

    Answer length(int way, int id) { return answer(face.length(way, id), "length", way, id); }

    Answer put(int b) { return answer(face.put(b), "put", b); }

    Answer come() { return answer(face.come(), "come"); }

    Answer event(int what) { return answer(face.event(what), "event", what); }

    Answer next() { return answer(face.next(), "next"); }

    Answer last(int f) { return answer(face.last(f), "last", f); }

    Answer want(int f, int n) { return answer(face.want(f, n), "want", f, n); }

    Answer made(int way, int id, int k) { return answer(face.made(way, id, k), "made", way, id, k); }

    Answer count(int what) { return answer(face.count(what), "count", what); }

    Answer image(int k) { return answer(face.image(k), "image", k); }

    Answer restore(int k) { return answer(face.restore(k), "restore", k); }

    // ITEMS by their words, for programs that are written in one line.

    private Trial add(int sort, int tag, int n) {
        item(sort, tag, n).isNotRefused();
        return this;
    }

    Trial page(int n) { return add(1, 0, n); }

    Trial least(int n) { return add(1, 1, n); }

    Trial most(int n) { return add(1, 2, n); }

    Trial size(int n) { return add(1, 7, n); }

    Trial id(int n) { return add(1, 8, n); }

    Trial many(int n) { return add(1, 9, n); }

    Trial push() { return add(1, 10, 0); }

    Trial pop() { return add(1, 11, 0); }

    Trial use(int n) { return add(2, 0, n); }

    Trial first(int n) { return add(2, 1, n); }

    Trial upto(int n) { return add(2, 2, n); }

    Trial in(int n) { return add(0, 8, n); }

    Trial out(int n) { return add(0, 9, n); }

    Trial both(int n) { return add(0, 11, n); }

    /** FIELDS of the WAY 0, 1 or 2. */
    Trial fields(int way, int n) { return way == 0 ? in(n) : way == 1 ? out(n) : both(n); }

    Trial begin(int kind) { return add(0, 10, kind); }

    Trial end() { return add(0, 12, 0); }

    // Several calls at once.

    Trial says(int... bytes) {
        for (int b : bytes) say(b).isNotRefused();
        return this;
    }

    /** An ITEM with four BYTES, of which the last one is the highest. */
    Trial wide(int sort, int tag, int n) {
        return says(tag * 16 + sort * 4 + 3, n & 255, n >> 8 & 255, n >> 16 & 255, n >>> 24);
    }

    /** ITEMS of one BYTE that set nothing, until THE PROGRAM has so many BYTES. */
    Trial fill(int bytes) {
        int had = count(3).got();
        for (int i = had; i < bytes; i++) say(NOTHING).is(i + 1);
        return this;
    }

    /** THE PROGRAM is read, and makes so many FIELDS. */
    Trial reads(int fields) {
        read().is(fields);
        return this;
    }

    Trial puts(int... bytes) {
        for (int b : bytes) put(b).isNotRefused();
        return this;
    }

    Answer comes(int... bytes) {
        return puts(bytes).come();
    }

    /** The oldest EVENT is this one, and goes. */
    Trial tells(int field, int use, int number) {
        event(0).is(field);
        event(1).is(use);
        event(2).is(number);
        next().isNotRefused();
        return this;
    }

    /** There are no more EVENTS. */
    void tellsNoMore() {
        next().is(NONE);
    }

    /** THE FAULT of THE PROGRAM, as fault() tells it. */
    void hasFault(int number, int place) {
        fault(0).is(number);
        fault(1).is(place);
    }

    void hasNoFault() {
        hasFault(0, NONE);
    }

    /** The i-th ITEM, written out, is this text. */
    void writes(int i, String text) {
        for (int k = 0; k < text.length(); k++) written(i, k).is(text.charAt(k));
        written(i, -1).is(text.length());
    }

    /** What field(f, 0), field(f, 1) and so on tell. */
    void hasField(int f, int... told) {
        for (int what = 0; what < told.length; what++) field(f, what).is(told[what]);
    }
}
