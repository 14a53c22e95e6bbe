/** Promises 32 to 37 at their edges: every kind as every other, traces that end, counts at their ends. */
public final class AskedEdgesTest {
    private static final int MIN = Integer.MIN_VALUE, MAX = Integer.MAX_VALUE, NONE = Check.NONE;

    public static void main(String[] args) {
        everyKindAsEveryOther();
        asOfNone();
        asksAtTheEnds();
        theTraceIsEmptyAtFirst();
        theTraceEnds();
        theTraceIsEmptyAheadOfAnAsk();
        theTraceOfOthersStays();
        countsOfNothing();
        countsAtTheirEnds();
        statusAtFirst();
        Check.finish();
    }

    private static void everyKindAsEveryOther() {
        PuddingHobs x = Check.hobOf("k0,60;p0,0;s0,0;l0,0;b0,0;r0,0;");
        String[] is = {"110000", "111000", "110100", "100010", "100011"};
        for (int b = 0; b < 5; b++) {
            Check.due("kind", x.kind(b), b + 1);
            for (int kind = 0; kind <= 5; kind++) {
                boolean fits = is[b].charAt(kind) == '1';
                Check.due(b + " as " + kind, x.as(b, kind), fits ? b : Check.KIND);
                Check.due("status()", x.status(), fits ? 0 : 3);
            }
        }
    }

    private static void asOfNone() {
        PuddingHobs x = Check.hobOf("k0,60;p0,0;");
        x.as(0, 5);
        for (int kind : new int[] {MIN, -1, 6, MAX}) {
            Check.due("as " + kind, x.as(0, kind), Check.BAD);
        }
        for (int b : new int[] {MIN, -1, 1, 6, 7, MAX}) {
            Check.due("basin " + b, x.as(b, 0), Check.BAD);
            Check.due("basin " + b, x.kind(b), Check.BAD);
            Check.due("basin " + b, x.ask(b, 0), Check.BAD);
        }
        Check.due("status() stays", x.status(), 3);
    }

    private static void asksAtTheEnds() {
        PuddingHobs x = Check.hobOf("k0,60;p0,0;s0,0;l0,0;b0,0;r0,0;s20,30;r20,30;");
        int[] sizes = {0, -2, -998, -100, -200, -90, -160};
        int[] marks = {0, 2, -998, 103, 204, 70, 166};
        for (int b = 0; b < 7; b++) {
            Check.due("SIZE of " + b, x.ask(b, 0), sizes[b]);
            Check.due("MARK of " + b, x.ask(b, 1), marks[b]);
        }
        for (int what : new int[] {MIN, -1, 2, MAX}) {
            Check.due("ask " + what, x.ask(0, what), Check.BAD);
        }
        x = Check.hobOf("k0,10;p4,11;");
        x.hours(1);
        Check.due("of one that is burst", x.ask(0, 0), 15);
    }

    private static void theTraceIsEmptyAtFirst() {
        PuddingHobs x = new PuddingHobs();
        for (int i : new int[] {MIN, -1, 0, 1, 15, 16, 17, MAX}) {
            Check.due("trace " + i, x.trace(i), NONE);
        }
        Check.due("ask of none", x.ask(0, 0), Check.BAD);
        Check.due("trace 0", x.trace(0), NONE);
    }

    /** No ask leaves more than six numbers, so that the first 16 are always all of them. */
    private static void theTraceEnds() {
        PuddingHobs x = Check.hobOf("k0,60;p0,0;s0,0;l0,0;b0,0;r0,0;");
        int[][] lengths = {{4, 2}, {6, 3}, {5, 3}, {2, 4}, {3, 5}};
        for (int b = 0; b < 5; b++) {
            for (int what = 0; what <= 1; what++) {
                x.ask(b, what);
                int n = lengths[b][what];
                Check.due("the last of " + b + " " + what, x.trace(n - 1) >= 10);
                for (int i : new int[] {n, n + 1, 15, 16, 17, MAX, -1, MIN}) {
                    Check.due("trace " + i, x.trace(i), NONE);
                }
            }
        }
    }

    private static void theTraceIsEmptyAheadOfAnAsk() {
        PuddingHobs x = Check.hobOf("k0,60;b0,0;s0,0;");
        x.ask(1, 0);
        Check.dueAll("six", Check.traces(x), 12, 11, 10, 24, 21, 20);
        x.ask(0, 0);
        Check.dueAll("two", Check.traces(x), 13, 10);
        x.ask(0, 0);
        Check.dueAll("two, and not four", Check.traces(x), 13, 10);
        x.ask(1, 1);
        Check.dueAll("three", Check.traces(x), 24, 21, 20);
    }

    private static void theTraceOfOthersStays() {
        PuddingHobs x = Check.hobOf("k0,60;b0,0;s0,0;");
        x.ask(1, 1);
        x.ask(1, 2);
        x.ask(2, 0);
        x.ask(MIN, MAX);
        x.as(1, 0);
        x.as(0, 1);
        x.kind(0);
        x.hours(1);
        x.undo();
        Check.read(x, "k0,60;p0,0;");
        Check.dueAll("as the last ask left it", Check.traces(x), 24, 21, 20);
    }

    private static void countsOfNothing() {
        PuddingHobs x = new PuddingHobs();
        Check.dueAll("counts", Check.counts(x), 0, 0, 0, 0, 0, 0, 0, 0, 0, 0);
        for (int what : new int[] {MIN, -1, 10, MAX}) {
            Check.due("count " + what, x.count(what), Check.BAD);
        }
    }

    private static void countsAtTheirEnds() {
        PuddingHobs x = Check.hobOf("k9,60;" + "p0,0;".repeat(7));
        for (int b = 0; b < 7; b++) {
            x.stir(b);
        }
        for (int row = 0; row < 8; row++) {
            x.row(row, 0, 0);
        }
        for (int n = 0; n < 90; n++) {
            x.feed('k');
        }
        Check.dueAll("counts", Check.counts(x), 8, 7, 0, 9, 60, 0, 127, 127, 7, 90);
        x.hours(24);
        for (int b = 0; b < 7; b++) {
            x.on(b, 0);
        }
        x.heat(0);
        Check.dueAll("counts", Check.counts(x), 8, 7, 24, 0, 60, 127, 0, 0, 24, 90);
        Check.dueAll("the least cloth", Check.counts(Check.hobOf("k0,5;p0,0;")), 0, 1, 0, 0, 5, 0, 1, 0, 0, 0);
    }

    private static void statusAtFirst() {
        PuddingHobs x = new PuddingHobs();
        Check.due("there was none", x.status(), 0);
        Check.due("BAD", x.row(8, 0, 0), Check.BAD);
        Check.due("BAD", x.as(0, 0), Check.BAD);
        Check.due("BAD", x.fits(0, 0, 0, 1, 0), Check.BAD);
        Check.due("none that counts", x.status(), 0);
        Check.due("NULL", x.copy(0, 0, 1, 0, 0), Check.NULL);
        Check.due("1", x.status(), 1);
        Check.due("row", x.row(0, 0, 0), 0);
        Check.due("0", x.status(), 0);
    }
}
