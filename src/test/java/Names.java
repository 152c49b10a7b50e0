/** The document's numbers by their names, for the tests. */
interface Names {
    int NOTHING = 0;
    int INTS = 1;
    int BYTES = 2;
    int LONGS = 3;

    int ADD = 0;
    int TIMES = 1;
    int OVER = 2;
    int PICK = 3;
    int ABOVE = 4;
    int EVEN = 5;
    int UNLIKE = 6;
    int TAKE = 7;
    int SKIP = 8;
    int WHILE = 9;
    int SUMS = 10;
    int TURN = 11;

    int SUM = 0;
    int COUNT = 1;
    int FIRST = 2;
    int LAST = 3;
    int ANY = 4;

    int NO_SUCH = -1;
    int OUT_OF_BOUNDS = -2;
    int NONE_SO_FAR = -3;
    int NO_ROOM = -4;

    int OF_NONE = 1;
    int FAULT_1 = -11;
    int FAULT_2 = -12;
    int FAULT_3 = -13;
    int FAULT_4 = -14;
    int SPENT = -20;

    long LEAST = Long.MIN_VALUE;
    long GREATEST = Long.MAX_VALUE;
    int LEAST_INT = Integer.MIN_VALUE;
    int GREATEST_INT = Integer.MAX_VALUE;
}
