/** Promises 2 to 5 at their edges: rows missing, empty and full; lanes that wrap around; copies up to the ends. */
public final class RowEdgesTest {
    private static final int MIN = Integer.MIN_VALUE, MAX = Integer.MAX_VALUE;
    private static final int ALL_PLUMS = (1 << 21) - 1;
    /** On this hob nothing ever swells, so that an item from 0 to 6 is the swell of the basin of that number. */
    private static final String STILL = "k0,60;p0,0;p0,1;p0,2;p0,3;p0,4;p0,5;p0,6;";

    public static void main(String[] args) {
        allAreMissingAtFirst();
        rowsAreCounted();
        eachLengthEnds();
        anEmptyRow();
        aFullRow();
        itemsAreZeroAtFirst();
        sizeLeavesWhatIsThere();
        bytesWrapAround();
        shortsWrapAround();
        intsStay();
        whatIsCutIsKept();
        copyToTheEnds();
        copyBeyondAnEnd();
        copyAtTheEndsOfInt();
        copyAsTheyWereAhead();
        aCopyIsNoTie();
        dropIsForOneRow();
        Check.finish();
    }

    private static int item(PuddingHobs x, int row, int i) {
        for (int b = 0; b <= 6; b++) {
            if (x.fits(b, row, i, 1, 1) == ALL_PLUMS) {
                return b;
            }
        }
        return -1;
    }

    private static void dueItems(String what, PuddingHobs x, int row, int... want) {
        int[] got = new int[want.length];
        for (int i = 0; i < got.length; i++) {
            got[i] = item(x, row, i);
        }
        Check.dueAll(what, got, want);
        Check.due(what + ", its end", x.set(row, want.length, 0), Check.PLACE);
    }

    private static void allAreMissingAtFirst() {
        PuddingHobs x = Check.hobOf(STILL);
        Check.due("none is there", x.count(0), 0);
        for (int row = 0; row <= 7; row++) {
            Check.due("set", x.set(row, 0, 0), Check.NULL);
            Check.due("copy", x.copy(row, 0, row, 0, 0), Check.NULL);
            Check.due("drop", x.drop(row), Check.NULL);
            Check.due("fits", x.fits(0, row, 0, 1, 0), Check.NULL);
        }
        Check.due("none is there yet", x.count(0), 0);
    }

    private static void rowsAreCounted() {
        PuddingHobs x = new PuddingHobs();
        for (int row = 0; row <= 7; row++) {
            Check.due("made", x.row(row, row % 3, 0), 0);
            Check.due("one more", x.count(0), row + 1);
            Check.due("in its own place", x.row(row, 0, 40), 40);
            Check.due("no more", x.count(0), row + 1);
        }
        for (int row = 7; row >= 0; row--) {
            Check.due("dropped", x.drop(row), 40);
            Check.due("one fewer", x.count(0), row);
        }
    }

    private static void eachLengthEnds() {
        PuddingHobs x = new PuddingHobs();
        for (int n = 1; n <= 40; n++) {
            Check.due("row", x.row(7, n % 3, n), n);
            Check.due("its first item", x.set(7, 0, 1), 1);
            Check.due("its last item", x.set(7, n - 1, 2), 2);
            Check.due("behind the last", x.set(7, n, 3), Check.PLACE);
            Check.due("ahead of the first", x.set(7, -1, 3), Check.PLACE);
        }
        Check.due("40", x.drop(7), 40);
    }

    private static void anEmptyRow() {
        PuddingHobs x = Check.hobOf(STILL);
        x.row(0, 1, 0);
        x.row(1, 1, 1);
        for (int i : new int[] {MIN, -1, 0, 1, MAX}) {
            Check.due("no item " + i, x.set(0, i, 0), Check.PLACE);
            Check.due("no hour from " + i, x.fits(0, 0, i, 1, 0), Check.PLACE);
        }
        Check.due("none to itself", x.copy(0, 0, 0, 0, 0), 0);
        Check.due("none to another", x.copy(0, 0, 1, 1, 0), 0);
        Check.due("none from another", x.copy(1, 1, 0, 0, 0), 0);
        Check.due("one from it", x.copy(0, 0, 1, 0, 1), Check.PLACE);
        Check.due("one to it", x.copy(1, 0, 0, 0, 1), Check.PLACE);
        Check.due("it is there", x.count(0), 2);
        Check.due("it had none", x.drop(0), 0);
        Check.due("it is missing", x.set(0, 0, 0), Check.NULL);
    }

    private static void aFullRow() {
        PuddingHobs x = Check.hobOf(STILL);
        x.row(6, 2, 40);
        x.row(7, 2, 40);
        x.set(6, 0, 1);
        x.set(6, 39, 6);
        Check.due("all 40", x.copy(6, 0, 7, 0, 40), 40);
        Check.due("41", x.copy(6, 0, 7, 0, 41), Check.PLACE);
        Check.dueAll("both ends", new int[] {item(x, 7, 0), item(x, 7, 1), item(x, 7, 38), item(x, 7, 39)}, 1, 0, 0, 6);
        Check.due("the row ahead of it stays", item(x, 6, 39), 6);
        Check.due("12 hours up to its end", x.fits(0, 6, 28, 12, 0), 0);
        Check.due("12 hours beyond it", x.fits(0, 6, 29, 12, 0), Check.PLACE);
        Check.due("1 hour at its end", x.fits(6, 6, 39, 1, 1), ALL_PLUMS);
        Check.due("1 hour beyond it", x.fits(6, 6, 40, 1, 1), Check.PLACE);
    }

    private static void itemsAreZeroAtFirst() {
        PuddingHobs x = Check.hobOf(STILL);
        Check.rowOf(x, 3, 2, 5, 5, 5, 5);
        Check.due("again", x.row(3, 2, 4), 4);
        dueItems("0 in place of 5", x, 3, 0, 0, 0, 0);
        Check.rowOf(x, 3, 0, 6, 6, 6, 6);
        x.row(3, 1, 1);
        x.row(3, 1, 4);
        dueItems("0 behind a shorter one", x, 3, 0, 0, 0, 0);
        Check.rowOf(x, 3, 0, 4, 4);
        x.drop(3);
        x.row(3, 0, 2);
        dueItems("0 behind a drop", x, 3, 0, 0);
    }

    private static void sizeLeavesWhatIsThere() {
        PuddingHobs x = Check.hobOf(STILL);
        Check.rowOf(x, 2, 1, 3, 4);
        for (int n : new int[] {-1, -40, MIN}) {
            Check.due("SIZE " + n, x.row(2, 0, n), Check.SIZE);
            Check.due("status()", x.status(), 4);
        }
        for (int n : new int[] {41, MAX}) {
            Check.due("BAD " + n, x.row(2, 0, n), Check.BAD);
        }
        dueItems("as it was", x, 2, 3, 4);
        Check.due("its lane, too", x.set(2, 0, 300), 300);
        Check.due("SIZE of one that is missing", x.row(5, 0, -1), Check.SIZE);
        Check.due("it is missing yet", x.drop(5), Check.NULL);
    }

    private static void bytesWrapAround() {
        int[][] cut = {{0, 0}, {1, 1}, {127, 127}, {128, -128}, {129, -127}, {255, -1}, {256, 0}, {257, 1}, {383, 127},
            {384, -128}, {-1, -1}, {-127, -127}, {-128, -128}, {-129, 127}, {-255, 1}, {-256, 0}, {-257, -1},
            {32767, -1}, {32768, 0}, {65535, -1}, {65536, 0}, {MAX, -1}, {MAX - 1, -2}, {MIN, 0}, {MIN + 1, 1}};
        dueCut(0, cut);
    }

    private static void shortsWrapAround() {
        int[][] cut = {{0, 0}, {128, 128}, {256, 256}, {32767, 32767}, {32768, -32768}, {32769, -32767}, {65535, -1},
            {65536, 0}, {65537, 1}, {98303, 32767}, {98304, -32768}, {-1, -1}, {-32768, -32768}, {-32769, 32767},
            {-65535, 1}, {-65536, 0}, {-65537, -1}, {MAX, -1}, {MAX - 1, -2}, {MIN, 0}, {MIN + 1, 1}};
        dueCut(1, cut);
    }

    private static void intsStay() {
        int[][] cut = {{0, 0}, {256, 256}, {65536, 65536}, {-65537, -65537}, {MAX, MAX}, {MIN, MIN}, {-1, -1},
            {MAX - 1, MAX - 1}, {MIN + 1, MIN + 1}};
        dueCut(2, cut);
    }

    private static void dueCut(int lane, int[][] cut) {
        PuddingHobs x = new PuddingHobs();
        x.row(4, lane, 2);
        for (int[] pair : cut) {
            Check.due("lane " + lane + ", " + pair[0], x.set(4, 1, pair[0]), pair[1]);
            Check.due("status()", x.status(), 0);
        }
    }

    private static void whatIsCutIsKept() {
        PuddingHobs x = Check.hobOf(STILL);
        Check.rowOf(x, 0, 0, 256 + 5, MIN + 3, -256 + 6);
        dueItems("bytes", x, 0, 5, 3, 6);
        Check.rowOf(x, 1, 1, 65536 + 5, MIN + 3, 256 + 1);
        dueItems("shorts", x, 1, 5, 3, -1);
        Check.rowOf(x, 2, 2, 65536 + 5, 3, MIN + 3);
        dueItems("ints", x, 2, -1, 3, -1);
    }

    private static void copyToTheEnds() {
        PuddingHobs x = Check.hobOf(STILL);
        Check.rowOf(x, 0, 0, 1, 2, 3);
        Check.rowOf(x, 1, 0, 0, 0, 0, 0);
        Check.due("all of a to the end of b", x.copy(0, 0, 1, 1, 3), 3);
        dueItems("b", x, 1, 0, 1, 2, 3);
        Check.due("the last to the first", x.copy(0, 2, 1, 0, 1), 1);
        dueItems("b", x, 1, 3, 1, 2, 3);
        Check.due("the first to the last", x.copy(0, 0, 1, 3, 1), 1);
        dueItems("b", x, 1, 3, 1, 2, 1);
        Check.due("none, at both ends", x.copy(0, 3, 1, 4, 0), 0);
        Check.due("none, at both beginnings", x.copy(0, 0, 1, 0, 0), 0);
        dueItems("b", x, 1, 3, 1, 2, 1);
        dueItems("a", x, 0, 1, 2, 3);
    }

    private static void copyBeyondAnEnd() {
        PuddingHobs x = Check.hobOf(STILL);
        Check.rowOf(x, 0, 0, 1, 2, 3);
        Check.rowOf(x, 1, 0, 4, 4, 4, 4);
        int[][] wrong = {{1, 0, 3}, {0, 2, 3}, {0, 1, 4}, {4, 0, 0}, {0, 5, 0}, {3, 0, 1}, {0, 4, 1}, {-1, 0, 1},
            {0, -1, 1}, {-1, 0, 0}, {0, -1, 0}, {0, 0, -1}, {1, 1, -1}, {3, 4, -1}, {-1, -1, 2}, {2, 3, 2}};
        for (int[] at : wrong) {
            Check.due("copy " + at[0] + " " + at[1] + " " + at[2], x.copy(0, at[0], 1, at[1], at[2]), Check.PLACE);
            Check.due("status()", x.status(), 2);
        }
        dueItems("b", x, 1, 4, 4, 4, 4);
    }

    private static void copyAtTheEndsOfInt() {
        PuddingHobs x = Check.hobOf(STILL);
        Check.rowOf(x, 0, 0, 1, 2, 3);
        int[] ends = {MIN, MIN + 1, -1, 0, 1, MAX - 1, MAX};
        for (int i : ends) {
            for (int j : ends) {
                for (int n : ends) {
                    boolean fine = i >= 0 && i <= 1 && j >= 0 && j <= 1 && n >= 0 && n <= 1;
                    Check.due("copy " + i + " " + j + " " + n, x.copy(0, i, 0, j, n), fine ? n : Check.PLACE);
                }
            }
        }
    }

    private static void copyAsTheyWereAhead() {
        PuddingHobs x = Check.hobOf(STILL);
        Check.rowOf(x, 0, 2, 1, 2, 3, 4, 5);
        x.copy(0, 0, 0, 1, 4);
        dueItems("forth by one", x, 0, 1, 1, 2, 3, 4);
        Check.rowOf(x, 0, 2, 1, 2, 3, 4, 5);
        x.copy(0, 1, 0, 0, 4);
        dueItems("back by one", x, 0, 2, 3, 4, 5, 5);
        Check.rowOf(x, 0, 2, 1, 2, 3, 4, 5);
        x.copy(0, 0, 0, 2, 3);
        dueItems("forth by two", x, 0, 1, 2, 1, 2, 3);
        x.copy(0, 0, 0, 0, 5);
        dueItems("onto itself", x, 0, 1, 2, 1, 2, 3);
    }

    private static void aCopyIsNoTie() {
        PuddingHobs x = Check.hobOf(STILL);
        Check.rowOf(x, 0, 2, 1, 2);
        Check.rowOf(x, 1, 2, 0, 0);
        x.copy(0, 0, 1, 0, 2);
        x.set(0, 0, 6);
        x.set(1, 1, 5);
        dueItems("a", x, 0, 6, 2);
        dueItems("b", x, 1, 1, 5);
        x.drop(0);
        dueItems("b behind the drop of a", x, 1, 1, 5);
    }

    private static void dropIsForOneRow() {
        PuddingHobs x = Check.hobOf(STILL);
        for (int row = 0; row <= 7; row++) {
            Check.rowOf(x, row, 0, row % 7);
        }
        Check.due("drop", x.drop(3), 1);
        Check.due("again", x.drop(3), Check.NULL);
        for (int row = 0; row <= 7; row++) {
            if (row != 3) {
                dueItems("row " + row, x, row, row % 7);
            }
        }
        Check.due("seven are left", x.count(0), 7);
    }
}
