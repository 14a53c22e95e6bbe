import java.util.List;

/** Each argument that is held against a bound: the last that is in, the first that is out, the ends of int. */
public final class BoundsTest {
    private static final int BAD = Check.BAD, PLACE = Check.PLACE, SIZE = Check.SIZE, NONE = Check.NONE;
    private static final int MIN = Integer.MIN_VALUE, MAX = Integer.MAX_VALUE;
    /** Numbers far out, among them such as are small again if a cast or a sum cuts them. */
    private static final int[] FAR = {MIN, MIN + 1, MIN + 2, -65536, -256, 1 << 16, 1 << 24, 1 << 30, MAX - 1, MAX};

    private static final List<Integer> UNTOUCHED = Busy.seen(made());

    public static void main(String[] args) {
        busyIsAsTold();
        rows();
        hobsAndActs();
        foretold();
        asked();
        basinsOfEachSize();
        aSmallerHobHidesTheLarger();
        Check.finish();
    }

    private static PuddingHobs made() {
        PuddingHobs x = new PuddingHobs();
        Script.run(x, Busy.MADE);
        return x;
    }

    /** If the object were not as busy as told, little would be seen of what a refusal changes. */
    private static void busyIsAsTold() {
        PuddingHobs x = made();
        Check.due("status()", x.status(), Busy.STATUS);
        Check.due("fault()", x.fault(), 2);
        Check.dueAll("counts", Check.counts(x), 4, 5, 1, 7, 20, 0b00101, 0b11101, 0b01000, 6, 2);
        Check.dueAll("swells", Check.swells(x), 22, 14, 21, 7, 10);
        Check.dueAll("plums", Check.ofEach(x, 1), 5, 8, 3, 9, 3);
        Check.dueAll("places", Check.ofEach(x, 2), 4, 1, 2, 3, 0);
        Check.dueAll("trace", Check.traces(x), 12, 11, 10, 24, 21, 20);
        int size = UNTOUCHED.size();
        Check.due("what a model sees", UNTOUCHED.equals(Busy.seen(model())));
        // With no heat but what reaches a place, an item is the swell of the basin there, and else it is not.
        Check.due("the items", UNTOUCHED.subList(size - 20, size - 12).equals(List.of(1, 3, 7, 15, 31, 63, 127, 1)));
        Check.due("the lanes", UNTOUCHED.subList(size - 12, size - 8).equals(List.of(112, 4464, 0, 70000)));
        int[] lengths = UNTOUCHED.subList(size - 8, size).stream().mapToInt(n -> n).toArray();
        Check.dueAll("the lengths", lengths, 3, 2, 0, 3, Check.NULL, Check.NULL, Check.NULL, Check.NULL);
    }

    private static Model model() {
        Model model = new Model();
        Script.run(model, Busy.MADE);
        return model;
    }

    private static void rows() {
        int[] row = {1, 1, 5};
        within("row", row, 0, 0, 7, BAD, BAD);
        within("row", row, 1, 0, 2, BAD, BAD);
        within("row", row, 2, 0, 40, SIZE, BAD);
        int[] set = {0, 1, 5};
        within("set", set, 0, 0, 7, BAD, BAD);
        within("set", set, 1, 0, 2, PLACE, PLACE);
        int[] copy = {0, 0, 0, 0, 1};
        within("copy", copy, 0, 0, 7, BAD, BAD);
        within("copy", copy, 1, 0, 2, PLACE, PLACE);
        within("copy", copy, 2, 0, 7, BAD, BAD);
        within("copy", copy, 3, 0, 2, PLACE, PLACE);
        within("copy", copy, 4, 0, 3, PLACE, PLACE);
        within("drop", new int[] {0}, 0, 0, 7, BAD, BAD);
    }

    private static void hobsAndActs() {
        within("feed", new int[] {112}, 0, 0, 255, BAD, BAD);
        within("hours", new int[] {2}, 0, 1, 24, BAD, BAD);
        within("stir", new int[] {3}, 0, 0, 4, BAD, BAD);
        within("on", new int[] {1, 1}, 0, 0, 4, BAD, BAD);
        within("on", new int[] {1, 1}, 1, 0, 1, BAD, BAD);
        within("swap", new int[] {1, 3}, 0, 0, 4, BAD, BAD);
        within("swap", new int[] {1, 3}, 1, 0, 4, BAD, BAD);
        within("plums", new int[] {4, 3}, 0, 0, 4, BAD, BAD);
        within("plums", new int[] {4, 3}, 1, 1, 20, BAD, BAD);
        within("heat", new int[] {4}, 0, 0, 9, BAD, BAD);
        within("basin", new int[] {4, 0}, 0, 0, 4, BAD, BAD);
        within("basin", new int[] {4, 0}, 1, 0, 6, BAD, BAD);
        within("place", new int[] {3}, 0, 0, 4, BAD, BAD);
    }

    private static void foretold() {
        within("swell", new int[] {4, 1}, 0, 0, 4, BAD, BAD);
        within("swell", new int[] {4, 1}, 1, 0, 60, BAD, BAD);
        within("burst", new int[] {1}, 0, 0, 60, BAD, BAD);
        within("bursting", new int[] {1}, 0, 0, 4, BAD, BAD);
        within("first", new int[] {0}, 0, 0, 1, BAD, BAD);
        within("stirs", new int[] {3, 1}, 0, 0, 4, BAD, BAD);
        within("stirs", new int[] {3, 1}, 1, 1, 30, BAD, BAD);
        within("off", new int[] {3, 1}, 0, 1, 30, BAD, BAD);
        within("off", new int[] {3, 1}, 1, 0, 1, BAD, BAD);
        within("change", new int[] {3, 1}, 0, 1, 30, BAD, BAD);
        within("change", new int[] {3, 1}, 1, 0, 1, BAD, BAD);
        within("hottest", new int[] {3}, 0, 1, 30, BAD, BAD);
        within("slices", new int[] {1, 10}, 0, 0, 4, BAD, BAD);
        within("slices", new int[] {1, 10}, 1, 0, 999, BAD, BAD);
        int[] fits = {1, 0, 0, 1, 0};
        within("fits", fits, 0, 0, 4, BAD, BAD);
        within("fits", fits, 1, 0, 7, BAD, BAD);
        within("fits", fits, 2, 0, 2, PLACE, PLACE);
        within("fits", fits, 3, 1, 12, BAD, BAD);
        within("fits", fits, 4, 0, 4, BAD, BAD);
        int[] mice = {3, 5, 3, 0};
        within("mice", mice, 0, 0, 4, BAD, BAD);
        within("mice", mice, 1, 0, 30, BAD, BAD);
        within("mice", mice, 2, 0, 10, BAD, BAD);
        within("mice", mice, 3, 0, 1, BAD, BAD);
        int[] drawn = {10, 7, 1};
        within("drawn", drawn, 0, 0, 60, BAD, BAD);
        within("drawn", drawn, 1, 1, 999999, BAD, BAD);
        within("drawn", drawn, 2, 0, 1, BAD, BAD);
        within("image", new int[] {0}, 0, 0, 1, BAD, BAD);
        within("restore", new int[] {0}, 0, 0, 1, BAD, BAD);
    }

    private static void asked() {
        within("kind", new int[] {3}, 0, 0, 4, BAD, BAD);
        within("as", new int[] {3, 0}, 0, 0, 4, BAD, BAD);
        within("as", new int[] {4, 4}, 1, 0, 5, BAD, BAD);
        within("ask", new int[] {3, 0}, 0, 0, 4, BAD, BAD);
        within("ask", new int[] {3, 0}, 1, 0, 1, BAD, BAD);
        within("trace", new int[] {3}, 0, 0, 5, NONE, NONE);
        within("count", new int[] {3}, 0, 0, 9, BAD, BAD);
    }

    private static void within(String name, int[] fine, int at, int least, int most, int below, int above) {
        in(Script.line(name, with(fine, at, least)), below, above);
        in(Script.line(name, with(fine, at, most)), below, above);
        out(Script.line(name, with(fine, at, least - 1)), below);
        out(Script.line(name, with(fine, at, most + 1)), above);
        for (int far : FAR) {
            if (far < least || far > most) {
                out(Script.line(name, with(fine, at, far)), far < least ? below : above);
            }
        }
    }

    private static int[] with(int[] args, int at, int value) {
        int[] all = args.clone();
        all[at] = value;
        return all;
    }

    /** The last that is in is answered, and does, what the model says. */
    private static void in(String line, int below, int above) {
        PuddingHobs x = made();
        Model model = model();
        int answer = Script.run(x, line).get(0);
        Check.due(line, answer, Script.run(model, line).get(0));
        Check.due(line + " is in", answer != below && answer != above);
        Check.due("status() behind " + line, x.status(), model.status());
        Check.due("what is seen behind " + line, Busy.seen(x).equals(Busy.seen(model)));
    }

    /** The first that is out is refused, and changes nothing but status(). */
    private static void out(String line, int refusal) {
        PuddingHobs x = made();
        Check.due(line, Script.run(x, line).get(0), refusal);
        boolean isFinding = refusal < Check.FULL;
        Check.due("status() behind " + line, x.status(), isFinding ? -1000010 - refusal : Busy.STATUS);
        Check.due("nothing changes behind " + line, Busy.seen(x).equals(UNTOUCHED));
    }

    /** With 1 to 7 basins the last one is in, and the one behind it is out. */
    private static void basinsOfEachSize() {
        String basins = "p1,1;s2,2;l3,3;b4,4;r5,5;p6,6;s7,7;";
        for (int size = 1; size <= 7; size++) {
            PuddingHobs x = Check.hobOf("k1,60;" + basins.substring(0, 5 * size));
            x.row(0, 0, 1);
            int[] in = ofBasin(x, size - 1);
            for (int answer : in) {
                Check.due("the last of " + size, answer != BAD);
            }
            for (int behind : new int[] {size, 7, 8, -1, MIN, MAX}) {
                for (int answer : ofBasin(x, behind)) {
                    Check.due("basin " + behind + " of " + size, answer, BAD);
                }
                Check.due("swap with " + behind + " of " + size, x.swap(0, behind), BAD);
            }
        }
    }

    private static int[] ofBasin(PuddingHobs x, int b) {
        return new int[] {x.stir(b), x.on(b, 0), x.plums(b, 1), x.basin(b, 0), x.place(b), x.swell(b, 0), x.bursting(b),
            x.stirs(b, 1), x.slices(b, 1), x.fits(b, 0, 0, 1, 0), x.mice(b, 0, 0, 0), x.kind(b), x.as(b, 0), x.ask(b, 0)};
    }

    private static void aSmallerHobHidesTheLarger() {
        PuddingHobs x = Check.hobOf("k1,60;p1,1;s2,2;l3,3;b4,4;r5,5;p6,6;s7,7;");
        x.row(0, 0, 1);
        x.image(0);
        Check.due("a hob of one", Check.read(x, "k1,60;p1,1;"), 1);
        for (int b = 1; b <= 6; b++) {
            for (int answer : ofBasin(x, b)) {
                Check.due("basin " + b + " of one", answer, BAD);
            }
        }
        Check.due("no pair", x.change(1, 0), NONE);
        Check.due("seven again", x.restore(0), 1);
        Check.due("basin 6", x.kind(6), 2);
        Check.due("basin 7", x.kind(7), BAD);
    }
}
