/** Numbers that the document names, and numbers that the tests use again and again. */
interface Codes {
    int UNKNOWN = -1, OUTSIDE = -2, STATE = -3, FULL = -4, NO = -5, NONE = -6, FAULT = -7;
    int LOWEST = Integer.MIN_VALUE, HIGHEST = Integer.MAX_VALUE;
    /** What N of an ITEM of FIELDS tells. */
    int SLOTS = 0, NO_FIELDS = 1, VALUES = 2, STEPS = 6;
    /** An ITEM of one BYTE that sets nothing: of SORT 1, TAG 3. */
    int NOTHING = 3 * 16 + 4;
}
