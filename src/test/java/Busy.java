import java.util.ArrayList;
import java.util.List;

/** An object in the midst of everything, made the same each time, and all that can be seen of one. */
final class Busy {
    /**
     * Five basins: 0 and 2 are burst, 1 is off, 3 is stirred, 0 and 4 have changed places; both images are kept; rows
     * 0 to 3 are there; two bytes are on the tape; a fault, a finding and a trace are behind it.
     */
    static final String[] MADE = {
        "read k3,9;p1,1;", "image 1", "read k1,4;",
        "read k3,20;p5,19;s8,4;l3,21;b9,6;r1,10;", "image 0",
        "hours 1", "stir 3", "on 1 0", "swap 0 4", "plums 4 2", "heat 7",
        "row 0 0 3", "set 0 0 11", "set 0 1 12", "set 0 2 13",
        "row 1 1 2", "set 1 0 14", "set 1 1 15",
        "row 2 2 0",
        "row 3 2 3", "set 3 0 16", "set 3 1 17", "set 3 2 11",
        "ask 1 0", "feed 107", "feed 57", "as 0 5"};

    /** The number of the finding that the last line leaves. */
    static final int STATUS = 3;

    private static final int ACTS = 6, BASINS = 5, ROWS = 8;
    /** The tape begins with a heat; this makes it a hob whose swells are the items of the rows. */
    private static final String REST_OF_TAPE = ",60;p0,11;p0,12;p0,13;p0,14;p0,15;p0,16;p0,17;";
    private static final String[] ITEMS = {"fits 0 0 0 1 2", "fits 1 0 1 1 2", "fits 2 0 2 1 2", "fits 3 1 0 1 2",
        "fits 4 1 1 1 2", "fits 5 3 0 1 2", "fits 6 3 1 1 2", "fits 0 3 2 1 2"};
    private static final String[] LANES = {"set 0 0 70000", "set 1 0 70000", "copy 2 0 3 0 0", "set 3 0 70000"};

    private Busy() { }

    /** All that can be seen of an object, but for status(); it is used up by this. */
    static List<Integer> seen(Object x) {
        return Script.run(x, seeing());
    }

    private static String[] seeing() {
        List<String> lines = new ArrayList<>();
        lines.add("fault");
        for (int i = 0; i <= 16; i++) {
            lines.add("trace " + i);
        }
        for (int b = 0; b <= BASINS; b++) {
            lines.add("kind " + b);
            lines.add("place " + b);
            for (int what = 3; what <= 6; what++) {
                lines.add("basin " + b + " " + what);
            }
        }
        picture(lines);
        for (int act = 0; act <= ACTS; act++) {
            lines.add("undo");
            picture(lines);
        }
        for (int k = 0; k <= 1; k++) {
            lines.add("restore " + k);
            for (int b = 0; b < BASINS; b++) {
                lines.add("kind " + b);
            }
            picture(lines);
        }
        lines.add("read " + REST_OF_TAPE);
        lines.add("heat 0");
        lines.addAll(List.of(ITEMS));
        lines.addAll(List.of(LANES));
        for (int row = 0; row < ROWS; row++) {
            lines.add("drop " + row);
        }
        return lines.toArray(new String[0]);
    }

    private static void picture(List<String> lines) {
        for (int what = 0; what <= 9; what++) {
            lines.add("count " + what);
        }
        for (int b = 0; b < BASINS; b++) {
            for (int what = 0; what <= 2; what++) {
                lines.add("basin " + b + " " + what);
            }
        }
    }
}
