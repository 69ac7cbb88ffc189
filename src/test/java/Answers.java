/** The answers by name, with the values that the document gives them, not taken from the class. */
interface Answers {
    int NONE = -1;
    int UNKNOWN = -101;
    int OUTSIDE = -102;
    int STATE = -103;
    int ROOM = -104;
    int WRONG = -105;
    int LIMITED = -106;
    int POOR = -107;
    int FAILED = -108;

    int OPEN = 0;
    int PAID = 1;
    int BARRED = 2;
    int BACK = 3;
    int REPLACED = 4;

    long DAY = 86400;
}
