/** Promises 32 to 37: kinds, asks, the trace, counts, status. */
public final class AskedTest {
    private static final String FIVE = "k9,60;p5,9;s20,12;l3,28;b9,25;r1,10;";

    public static void main(String[] args) {
        kinds();
        sizes();
        marks();
        asksRefused();
        counts();
        status();
        Check.finish();
    }

    private static void kinds() {
        PuddingHobs x = Check.hobOf(FIVE);
        int[] sets = {0b000011, 0b000111, 0b001011, 0b010001, 0b110001};
        for (int b = 0; b < 5; b++) {
            Check.due("kind", x.kind(b), b + 1);
            for (int kind = 0; kind <= 5; kind++) {
                boolean is = (sets[b] >> kind & 1) == 1;
                Check.due("as " + b + " " + kind, x.as(b, kind), is ? b : Check.KIND);
                Check.due("status()", x.status(), is ? 0 : 3);
            }
        }
        Check.due("kind(5)", x.kind(5), Check.BAD);
        Check.due("kind(-1)", x.kind(-1), Check.BAD);
        Check.due("as(0, 6)", x.as(0, 6), Check.BAD);
        Check.due("as(0, -1)", x.as(0, -1), Check.BAD);
        Check.due("as(5, 0)", x.as(5, 0), Check.BAD);
        Check.due("as(-1, 0)", x.as(-1, 0), Check.BAD);
    }

    private static void sizes() {
        PuddingHobs x = Check.hobOf(FIVE);
        asked(x, 0, 0, 14, 11, 10, 21, 20);
        asked(x, 1, 0, -46, 12, 11, 10, 24, 21, 20);
        asked(x, 2, 0, -967, 11, 10, 22, 21, 20);
        asked(x, 3, 0, -91, 13, 10);
        asked(x, 4, 0, -198, 14, 13, 10);
    }

    private static void marks() {
        PuddingHobs x = Check.hobOf(FIVE);
        asked(x, 0, 1, 9, 21, 20);
        asked(x, 1, 1, 26, 24, 21, 20);
        asked(x, 2, 1, -970, 22, 21, 20);
        asked(x, 3, 1, 94, 23, 20, 13, 10);
        asked(x, 4, 1, 202, 23, 20, 14, 13, 10);
    }

    private static void asked(PuddingHobs x, int basin, int what, int answer, int... trace) {
        Check.due("ask " + basin + " " + what, x.ask(basin, what), answer);
        Check.dueAll("trace " + basin + " " + what, Check.traces(x), trace);
    }

    private static void asksRefused() {
        PuddingHobs x = Check.hobOf(FIVE);
        x.ask(3, 0);
        Check.due("ask(0, 2)", x.ask(0, 2), Check.BAD);
        Check.due("ask(0, -1)", x.ask(0, -1), Check.BAD);
        Check.due("ask(5, 0)", x.ask(5, 0), Check.BAD);
        Check.due("ask(-1, 0)", x.ask(-1, 0), Check.BAD);
        Check.dueAll("the trace stays", Check.traces(x), 13, 10);
        Check.due("trace(-1)", x.trace(-1), Check.NONE);
        Check.due("trace(2)", x.trace(2), Check.NONE);
        Check.due("greatest", x.trace(Integer.MAX_VALUE), Check.NONE);
        Check.due("least", x.trace(Integer.MIN_VALUE), Check.NONE);
    }

    private static void counts() {
        PuddingHobs x = Check.hobOf("k2,10;p0,11;b1,2;l2,3;");
        x.row(3, 0, 4);
        x.row(6, 2, 4);
        x.hours(1);
        x.on(1, 0);
        x.stir(2);
        x.feed('k');
        Check.dueAll("counts", Check.counts(x), 2, 3, 1, 2, 10, 0b001, 0b101, 0b100, 3, 1);
        Check.due("count(10)", x.count(10), Check.BAD);
        Check.due("count(-1)", x.count(-1), Check.BAD);
    }

    private static void status() {
        PuddingHobs x = Check.hobOf(FIVE);
        Check.due("at first", x.status(), 0);
        x.as(0, 5);
        Check.due("KIND", x.status(), 3);
        x.as(0, 6);
        x.kind(0);
        x.ask(0, 0);
        x.hours(1);
        x.undo();
        Check.due("it stays", x.status(), 3);
        x.as(0, 1);
        Check.due("none", x.status(), 0);
        x.fits(0, 7, 0, 1, 0);
        Check.due("NULL", x.status(), 1);
        x.as(0, 0);
        Check.due("none", x.status(), 0);
    }
}
