/** An answer is not the one that is due. */
final class NotAsDue extends RuntimeException {
    private static final long serialVersionUID = 1;

    NotAsDue(String what) {
        super(what);
    }
}
