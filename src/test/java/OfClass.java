/** The class itself, behind the face that it shares with the model. */
final class OfClass implements Face {
    private final ShapeReports x = new ShapeReports();

    @Override public int say(int b) { return x.say(b); }

    @Override public int wipe() { return x.wipe(); }

    @Override public int item(int sort, int tag, int n) { return x.item(sort, tag, n); }

    @Override public int read() { return x.read(); }

    @Override public int fault(int what) { return x.fault(what); }

    @Override public int written(int i, int k) { return x.written(i, k); }

    @Override public int field(int f, int what) { return x.field(f, what); }

    @Override public int group(int g, int what) { return x.group(g, what); }

    @Override public int length(int way, int id) { return x.length(way, id); }

    @Override public int put(int b) { return x.put(b); }

    @Override public int come() { return x.come(); }

    @Override public int event(int what) { return x.event(what); }

    @Override public int next() { return x.next(); }

    @Override public int last(int f) { return x.last(f); }

    @Override public int want(int f, int n) { return x.want(f, n); }

    @Override public int made(int way, int id, int k) { return x.made(way, id, k); }

    @Override public int count(int what) { return x.count(what); }

    @Override public int image(int k) { return x.image(k); }

    @Override public int restore(int k) { return x.restore(k); }
}
