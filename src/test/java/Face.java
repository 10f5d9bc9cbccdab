/** The calls of the document, so that a test can put them to the class and to the model alike. */
public interface Face {
    int say(int b);

    int wipe();

    int item(int sort, int tag, int n);

    int read();

    int fault(int what);

    int written(int i, int k);

    int field(int f, int what);

    int group(int g, int what);

    int length(int way, int id);

    int put(int b);

    int come();

    int event(int what);

    int next();

    int last(int f);

    int want(int f, int n);

    int made(int way, int id, int k);

    int count(int what);

    int image(int k);

    int restore(int k);
}
