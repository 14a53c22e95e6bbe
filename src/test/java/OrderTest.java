/** The order of refusals: BAD, STATE, FULL, findings, but as told; status() tells of the latest that counts. */
public final class OrderTest {
    private static final int BAD = Check.BAD, STATE = Check.STATE, FULL = Check.FULL;
    private static final int MIN = Integer.MIN_VALUE, MAX = Integer.MAX_VALUE;
    private static final int[] NO_WHAT = {MIN, -1, 2, MAX};
    private static final int[] NO_SPAN = {MIN, -1, 0, 31, MAX};

    public static void main(String[] args) {
        stateAheadOfBad();
        badAheadOfNoHob();
        badAheadOfState();
        badAheadOfFull();
        badAheadOfFindings();
        findingsInTheirOrder();
        statusIsOfRowsAndAs();
        Check.finish();
    }

    /** Where the document says "STATE: no HOB (ahead of BAD)". */
    private static void stateAheadOfBad() {
        PuddingHobs x = new PuddingHobs();
        for (int n : new int[] {MIN, -1, 0, 25, MAX}) {
            Check.due("hours " + n, x.hours(n), STATE);
        }
        for (int v : new int[] {MIN, -1, 10, MAX}) {
            Check.due("heat " + v, x.heat(v), STATE);
        }
        for (int d : new int[] {MIN, -1, 61, MAX}) {
            Check.due("burst " + d, x.burst(d), STATE);
            Check.due("drawn " + d, x.drawn(d, 1, 0), STATE);
        }
        for (int seed : new int[] {MIN, 0, 1000000, MAX}) {
            Check.due("drawn by " + seed, x.drawn(1, seed, 0), STATE);
        }
        for (int n : NO_SPAN) {
            Check.due("off " + n, x.off(n, 0), STATE);
            Check.due("change " + n, x.change(n, 0), STATE);
            Check.due("hottest " + n, x.hottest(n), STATE);
        }
        for (int what : NO_WHAT) {
            Check.due("first, what " + what, x.first(what), STATE);
            Check.due("off, what " + what, x.off(1, what), STATE);
            Check.due("change, what " + what, x.change(1, what), STATE);
            Check.due("drawn, what " + what, x.drawn(1, 1, what), STATE);
        }
        Check.dueAll("a new object yet", Check.counts(x), 0, 0, 0, 0, 0, 0, 0, 0, 0, 0);
        Check.due("status()", x.status(), 0);
    }

    /** Where it does not say so, BAD is ahead, and without a hob there is no basin. */
    private static void badAheadOfNoHob() {
        PuddingHobs x = new PuddingHobs();
        for (int k : NO_WHAT) {
            Check.due("image " + k, x.image(k), BAD);
            Check.due("restore " + k, x.restore(k), BAD);
        }
        for (int k = 0; k <= 1; k++) {
            Check.due("image " + k, x.image(k), STATE);
            Check.due("restore " + k, x.restore(k), STATE);
        }
        x.row(0, 0, 1);
        for (int b : new int[] {MIN, -1, 0, 6, 7, MAX}) {
            int[] all = {x.stir(b), x.on(b, 1), x.swap(b, 1), x.swap(0, b), x.plums(b, 1), x.basin(b, 0), x.place(b),
                x.swell(b, 0), x.bursting(b), x.stirs(b, 1), x.slices(b, 0), x.fits(b, 0, 0, 1, 0), x.mice(b, 0, 0, 0),
                x.kind(b), x.as(b, 0), x.ask(b, 0)};
            for (int answer : all) {
                Check.due("basin " + b + " without a hob", answer, BAD);
            }
        }
        Check.due("undo()", x.undo(), STATE);
    }

    private static void badAheadOfState() {
        PuddingHobs x = Check.hobOf("k0,5;p1,6;p1,0;");
        x.hours(1);
        Check.due("burst", x.plums(0, 1), STATE);
        for (int n : new int[] {MIN, -1, 0, 21, MAX}) {
            Check.due("plums " + n + " into one that is burst", x.plums(0, n), BAD);
        }
        Check.due("it is on", x.on(1, 1), STATE);
        for (int on : NO_WHAT) {
            Check.due("on " + on, x.on(1, on), BAD);
        }
        Check.due("acts", x.count(8), 1);
    }

    private static void badAheadOfFull() {
        PuddingHobs x = new PuddingHobs();
        for (int n = 1; n <= 90; n++) {
            x.feed('k');
        }
        for (int letter : new int[] {MIN, -1, 256, MAX}) {
            Check.due("feed " + letter, x.feed(letter), BAD);
        }
        Check.due("feed 0", x.feed(0), FULL);
        Check.due("feed 255", x.feed(255), FULL);
        Check.due("90 bytes", x.count(9), 90);
    }

    private static void badAheadOfFindings() {
        PuddingHobs x = Check.hobOf("k0,5;p1,3;");
        x.row(0, 0, 2);
        x.as(0, 2);
        int[] all = {x.row(8, 0, -1), x.row(-1, 0, -1), x.row(1, 3, -1), x.row(1, -1, MIN), x.set(8, -1, 0),
            x.set(-1, MAX, 0), x.copy(8, -1, 1, 0, 1), x.copy(-1, 0, 1, 0, 1), x.copy(1, 0, 8, 0, 1), x.copy(1, 0, -1, 0, 1),
            x.copy(0, 0, 8, 0, -1), x.drop(8), x.drop(-1), x.fits(1, 1, 0, 1, 0), x.fits(-1, 0, -1, 1, 0),
            x.fits(0, 8, 0, 1, 0), x.fits(0, -1, 0, 1, 0), x.fits(0, 1, 0, 0, 0), x.fits(0, 1, 0, 13, 0),
            x.fits(0, 0, 0, 0, 0), x.fits(0, 0, 9, 13, 0), x.fits(0, 1, 0, 1, 5), x.fits(0, 0, -1, 1, -1), x.as(0, 6),
            x.as(0, -1), x.as(1, 5), x.as(-1, 5)};
        for (int i = 0; i < all.length; i++) {
            Check.due("BAD, number " + i, all[i], BAD);
        }
        Check.due("status() is of the call ahead", x.status(), 3);
        Check.due("rows", x.count(0), 1);
    }

    private static void findingsInTheirOrder() {
        PuddingHobs x = Check.hobOf("k0,5;p1,3;");
        x.row(0, 0, 2);
        x.row(1, 1, 2);
        finding(x, "set: NULL ahead of PLACE", x.set(2, -1, 0), 1);
        finding(x, "set: PLACE", x.set(0, 2, 0), 2);
        finding(x, "copy: NULL of a ahead of PLACE", x.copy(2, -1, 0, 0, 1), 1);
        finding(x, "copy: NULL of b ahead of PLACE", x.copy(0, 0, 2, 0, -1), 1);
        finding(x, "copy: NULL of both", x.copy(2, 0, 3, 0, 0), 1);
        finding(x, "copy: STORE ahead of PLACE of i", x.copy(0, -1, 1, 0, 1), 5);
        finding(x, "copy: STORE ahead of PLACE of j", x.copy(0, 0, 1, 3, 0), 5);
        finding(x, "copy: STORE ahead of PLACE of n", x.copy(1, 0, 0, 0, -1), 5);
        finding(x, "copy: STORE of no items", x.copy(1, 0, 0, 0, 0), 5);
        finding(x, "copy: PLACE", x.copy(0, 0, 0, 0, 3), 2);
        finding(x, "fits: NULL ahead of PLACE", x.fits(0, 2, -1, 1, 0), 1);
        finding(x, "fits: PLACE", x.fits(0, 0, 1, 2, 0), 2);
        finding(x, "drop: NULL", x.drop(2), 1);
        finding(x, "row: SIZE", x.row(0, 0, -1), 4);
        finding(x, "as: KIND", x.as(0, 3), 3);
    }

    private static void finding(PuddingHobs x, String call, int answer, int number) {
        Check.due(call, answer, -1000010 - number);
        Check.due("status() of " + call, x.status(), number);
    }

    private static void statusIsOfRowsAndAs() {
        PuddingHobs x = Check.hobOf("k0,5;p1,3;s1,6;");
        Check.due("none", x.status(), 0);
        x.drop(0);
        for (int pass = 0; pass < 2; pass++) {
            x.feed(0);
            x.feed(-1);
            x.hob();
            x.fault();
            x.hours(1);
            x.hours(0);
            x.stir(0);
            x.stir(1);
            x.on(0, pass);
            x.swap(0, 1);
            x.plums(0, 1);
            x.heat(0);
            x.undo();
            x.basin(0, 0);
            x.place(0);
            x.swell(0, 1);
            x.burst(1);
            x.bursting(0);
            x.first(0);
            x.stirs(0, 1);
            x.off(1, 0);
            x.change(1, 0);
            x.hottest(1);
            x.slices(0, 1);
            x.mice(0, 1, 1, 0);
            x.drawn(1, 1, 0);
            x.image(0);
            x.restore(0);
            x.kind(0);
            x.ask(0, 0);
            x.trace(0);
            x.count(0);
            Check.due("no other call", x.status(), 1);
        }
        Check.due("fits", x.row(0, 2, 1), 1);
        Check.due("none by row", x.status(), 0);
        x.as(0, 5);
        x.fits(0, 0, 0, 1, 4);
        Check.due("none by fits, though it answers NONE", x.status(), 0);
    }
}
