/** Promises 2 to 5, and 37 as far as rows go. */
public final class RowsTest {
    public static void main(String[] args) {
        row();
        set();
        copy();
        copyWithin();
        drop();
        status();
        Check.finish();
    }

    private static void row() {
        PuddingHobs x = new PuddingHobs();
        Check.due("row(0, 0, 0)", x.row(0, 0, 0), 0);
        Check.due("row(7, 2, 40)", x.row(7, 2, 40), 40);
        Check.due("count(0)", x.count(0), 2);
        Check.due("row 8", x.row(8, 0, 1), Check.BAD);
        Check.due("row -1", x.row(-1, 0, 1), Check.BAD);
        Check.due("lane 3", x.row(1, 3, 1), Check.BAD);
        Check.due("lane -1", x.row(1, -1, 1), Check.BAD);
        Check.due("41 items", x.row(1, 0, 41), Check.BAD);
        Check.due("-1 items", x.row(1, 0, -1), Check.SIZE);
        Check.due("least items", x.row(1, 0, Integer.MIN_VALUE), Check.SIZE);
        Check.due("BAD ahead of SIZE", x.row(1, 3, -1), Check.BAD);
        Check.due("count(0)", x.count(0), 2);
        x.set(7, 39, 5);
        Check.due("SIZE changes nothing", x.row(7, 0, -1), Check.SIZE);
        Check.due("item is there yet", x.copy(7, 39, 7, 0, 1), 1);
        Check.due("row in place of row", x.row(7, 2, 2), 2);
        Check.due("its end", x.set(7, 2, 0), Check.PLACE);
        Check.due("count(0)", x.count(0), 2);
    }

    private static void set() {
        PuddingHobs x = new PuddingHobs();
        x.row(0, 0, 2);
        x.row(1, 1, 2);
        x.row(2, 2, 2);
        Check.due("byte 127", x.set(0, 0, 127), 127);
        Check.due("byte 128", x.set(0, 0, 128), -128);
        Check.due("byte 256", x.set(0, 0, 256), 0);
        Check.due("byte -129", x.set(0, 0, -129), 127);
        Check.due("short 32767", x.set(1, 1, 32767), 32767);
        Check.due("short 32768", x.set(1, 1, 32768), -32768);
        Check.due("short 65536", x.set(1, 1, 65536), 0);
        Check.due("int", x.set(2, 1, Integer.MIN_VALUE), Integer.MIN_VALUE);
        Check.due("place 2", x.set(2, 2, 0), Check.PLACE);
        Check.due("place -1", x.set(2, -1, 0), Check.PLACE);
        Check.due("greatest place", x.set(2, Integer.MAX_VALUE, 0), Check.PLACE);
        Check.due("missing row", x.set(3, 0, 0), Check.NULL);
        Check.due("missing row, no place", x.set(3, -1, 0), Check.NULL);
        Check.due("row 8", x.set(8, 0, 0), Check.BAD);
        Check.due("row -1", x.set(-1, 0, 0), Check.BAD);
    }

    private static void copy() {
        PuddingHobs x = new PuddingHobs();
        x.row(0, 0, 3);
        x.row(1, 0, 4);
        x.row(2, 1, 4);
        Check.due("all", x.copy(0, 0, 1, 1, 3), 3);
        Check.due("none, at the ends", x.copy(0, 3, 1, 4, 0), 0);
        Check.due("none, beyond an end", x.copy(0, 4, 1, 0, 0), Check.PLACE);
        Check.due("beyond the end of a", x.copy(0, 1, 1, 0, 3), Check.PLACE);
        Check.due("beyond the end of b", x.copy(0, 0, 1, 2, 3), Check.PLACE);
        Check.due("i below 0", x.copy(0, -1, 1, 0, 1), Check.PLACE);
        Check.due("j below 0", x.copy(0, 0, 1, -1, 1), Check.PLACE);
        Check.due("n below 0", x.copy(0, 1, 1, 1, -1), Check.PLACE);
        Check.due("sums that wrap around", x.copy(0, Integer.MAX_VALUE, 1, Integer.MAX_VALUE, Integer.MAX_VALUE), Check.PLACE);
        Check.due("least numbers", x.copy(0, 0, 1, 0, Integer.MIN_VALUE), Check.PLACE);
        Check.due("two lanes ahead of places", x.copy(0, -1, 2, 0, 1), Check.STORE);
        Check.due("missing ahead of lanes", x.copy(0, 0, 3, 0, 1), Check.NULL);
        Check.due("missing", x.copy(3, 0, 2, 0, 1), Check.NULL);
        Check.due("row 8", x.copy(8, 0, 3, 0, 1), Check.BAD);
        Check.due("row -1", x.copy(3, 0, -1, 0, 1), Check.BAD);
    }

    /** What a row holds shows by fits: a plain basin in place 0 swells by the heat, hour by hour. */
    private static void copyWithin() {
        PuddingHobs x = Check.hobOf("k2,60;p0,0;");
        Check.rowOf(x, 0, 2, 0, 2, 4, 6, 8);
        Check.due("forth over itself", x.copy(0, 0, 0, 1, 4), 4);
        Check.rowOf(x, 1, 2, 0, 0, 0, 0, 0);
        x.copy(0, 2, 1, 1, 3);
        Check.due("2 4 6", x.fits(0, 1, 1, 3, 0), 1 << 1 | 1 << 2);
        Check.due("back over itself", x.copy(1, 1, 1, 0, 4), 4);
        Check.due("2 4 6 ahead", x.fits(0, 1, 0, 3, 0), 1 << 1 | 1 << 2);
        Check.due("a stays", x.fits(0, 0, 2, 3, 0), 1 << 1 | 1 << 2);
        x.row(1, 2, 5);
        Check.due("a new row has 0", x.fits(0, 1, 0, 3, 0), 1 << 4 | 1 << 5);
    }

    private static void drop() {
        PuddingHobs x = new PuddingHobs();
        x.row(4, 1, 17);
        x.row(5, 0, 0);
        Check.due("17", x.drop(4), 17);
        Check.due("0", x.drop(5), 0);
        Check.due("again", x.drop(4), Check.NULL);
        Check.due("set behind it", x.set(4, 0, 0), Check.NULL);
        Check.due("count(0)", x.count(0), 0);
        Check.due("row 8", x.drop(8), Check.BAD);
        Check.due("row -1", x.drop(-1), Check.BAD);
    }

    private static void status() {
        PuddingHobs x = new PuddingHobs();
        x.row(0, 0, -1);
        Check.due("SIZE", x.status(), 4);
        Check.due("status stays when asked", x.status(), 4);
        x.row(9, 0, 1);
        Check.due("BAD leaves it", x.status(), 4);
        x.row(0, 0, 1);
        Check.due("row", x.status(), 0);
        x.set(0, 1, 0);
        Check.due("PLACE", x.status(), 2);
        x.feed(-1);
        x.hours(1);
        x.count(0);
        Check.due("other calls leave it", x.status(), 2);
        x.set(0, 0, 0);
        Check.due("set", x.status(), 0);
        x.drop(1);
        Check.due("NULL", x.status(), 1);
        x.copy(0, 0, 0, 0, 1);
        Check.due("copy", x.status(), 0);
        x.row(1, 1, 1);
        x.copy(0, 0, 1, 0, 1);
        Check.due("STORE", x.status(), 5);
        x.drop(1);
        Check.due("drop", x.status(), 0);
    }
}
