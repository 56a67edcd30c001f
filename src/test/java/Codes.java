/** The numbers of the document's codes, written out once more: a wrong constant of the class must not hide here. */
interface Codes {
    int NO_SUCH = -1, BAD_VALUE = -2, BAD_TEXT = -3, TOO_MANY = -4, NOT_POSSIBLE = -5, NONE = -6;
    int SHORT = 0, STEP = 1, LEND = 2, SHAME = 3;
    int LOW = Integer.MIN_VALUE, HIGH = Integer.MAX_VALUE;
}
