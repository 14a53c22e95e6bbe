/** Promises 18 to 29: what is foretold changes nothing, and is as the document tells it. */
public final class ForetoldTest {
    public static void main(String[] args) {
        swellAndBurst();
        burstingAndFirst();
        firstOfSeveral();
        stirs();
        off();
        change();
        hottest();
        slices();
        fits();
        fitsAtTheGreatestCloth();
        fitsRefused();
        mice();
        drawn();
        nothingChanges();
        Check.finish();
    }

    private static void swellAndBurst() {
        PuddingHobs x = Check.hobOf("k2,5;p0,0;p0,0;");
        int[] told = {x.swell(0, 0), x.swell(0, 2), x.swell(0, 3), x.swell(0, 60), x.swell(1, 2), x.swell(1, 3)};
        Check.dueAll("swells", told, 0, 4, 6, 6, 2, 6);
        Check.due("behind the push", x.swell(1, 60), 6);
        Check.dueAll("bursts", new int[] {x.burst(0), x.burst(2), x.burst(3), x.burst(60)}, 0, 0, 3, 3);
        Check.due("swell(0, -1)", x.swell(0, -1), Check.BAD);
        Check.due("swell(0, 61)", x.swell(0, 61), Check.BAD);
        Check.due("swell(2, 0)", x.swell(2, 0), Check.BAD);
        Check.due("swell(-1, 0)", x.swell(-1, 0), Check.BAD);
        Check.due("burst(-1)", x.burst(-1), Check.BAD);
        Check.due("burst(61)", x.burst(61), Check.BAD);
    }

    private static void burstingAndFirst() {
        PuddingHobs x = Check.hobOf("k1,59;p0,0;");
        Check.due("behind 60", x.bursting(0), 60);
        Check.due("first behind 60", x.first(1), 60);
        Check.due("which", x.first(0), 0);
        x = Check.hobOf("k1,60;p0,0;");
        Check.due("behind 61", x.bursting(0), Check.NONE);
        Check.due("first", x.first(0), Check.NONE);
        Check.due("first", x.first(1), Check.NONE);
        x = Check.hobOf("k0,5;p0,6;");
        Check.due("behind 1", x.bursting(0), 1);
        x.hours(1);
        Check.due("burst now", x.bursting(0), 0);
        Check.due("not yet now", x.first(0), Check.NONE);
        Check.due("bursting(1)", x.bursting(1), Check.BAD);
        Check.due("bursting(-1)", x.bursting(-1), Check.BAD);
        Check.due("first(2)", x.first(2), Check.BAD);
        Check.due("first(-1)", x.first(-1), Check.BAD);
    }

    private static void firstOfSeveral() {
        PuddingHobs x = Check.hobOf("k3,12;p0,0;p0,0;p0,10;l0,0;p0,30;");
        Check.due("which", x.first(0), 4);
        Check.due("when", x.first(1), 1);
        x.hours(1);
        Check.due("which is next", x.first(0), 2);
        Check.due("when", x.first(1), 2);
        x = Check.hobOf("k0,10;p0,0;p0,8;p0,11;");
        Check.due("the least of one hour, whichever round", x.first(0), 1);
    }

    private static void stirs() {
        PuddingHobs x = Check.hobOf("k2,10;p0,9;b0,3;");
        Check.dueAll("stirs", new int[] {x.stirs(0, 1), x.stirs(0, 2), x.stirs(0, 30)}, 1, 2, Check.NONE);
        x = Check.hobOf("k9,30;b0,25;");
        Check.due("not stirred", x.stirs(0, 30), 0);
        x.stir(0);
        Check.due("stirred now", x.stirs(0, 1), 1);
        x = Check.hobOf("k6,60;p0,30;");
        x.hours(5);
        x.heat(8);
        Check.due("20 stirs", x.stirs(0, 5), 20);
        x.heat(9);
        Check.due("23 stirs are too many", x.stirs(0, 5), Check.NONE);
        x.heat(7);
        Check.due("21 stirs are too many", x.stirs(0, 6), Check.NONE);
        x.hours(1);
        Check.due("burst", x.stirs(0, 1), Check.NONE);
        Check.due("stirs(0, 0)", x.stirs(0, 0), Check.BAD);
        Check.due("stirs(0, 31)", x.stirs(0, 31), Check.BAD);
        Check.due("stirs(1, 1)", x.stirs(1, 1), Check.BAD);
        Check.due("stirs(-1, 1)", x.stirs(-1, 1), Check.BAD);
    }

    private static void off() {
        PuddingHobs x = Check.hobOf("k3,10;p0,9;l0,9;p0,10;");
        Check.due("how many", x.off(1, 0), 2);
        Check.due("which", x.off(1, 1), 0b101);
        Check.due("how many of 2 hours", x.off(2, 0), 3);
        x.on(0, 0);
        Check.due("how many more", x.off(1, 0), 1);
        Check.due("which more", x.off(1, 1), 0b100);
        x.heat(0);
        Check.due("no heat", x.off(30, 0), 0);
        Check.due("no heat", x.off(30, 1), 0);
        x = Check.hobOf("k0,5;p0,6;p0,0;");
        Check.due("not to be held", x.off(1, 0), Check.NONE);
        Check.due("not to be held", x.off(1, 1), Check.NONE);
        x.hours(1);
        Check.due("those that are burst are past", x.off(1, 0), 0);
        Check.due("off(0, 0)", x.off(0, 0), Check.BAD);
        Check.due("off(31, 0)", x.off(31, 0), Check.BAD);
        Check.due("off(1, 2)", x.off(1, 2), Check.BAD);
        Check.due("off(1, -1)", x.off(1, -1), Check.BAD);
    }

    private static void change() {
        PuddingHobs x = Check.hobOf("k3,10;p0,5;p0,9;");
        Check.due("pair", x.change(1, 0), 1);
        Check.due("how many", x.change(1, 1), 1);
        x = Check.hobOf("k3,10;p0,0;p0,9;l0,0;");
        Check.due("pair", x.change(1, 0), 12);
        Check.due("how many", x.change(1, 1), 0);
        x = Check.hobOf("k0,5;p0,6;p0,0;p0,0;");
        x.hours(1);
        Check.due("the first of several", x.change(30, 0), 1);
        Check.due("those that are burst count", x.change(30, 1), 1);
        x = Check.hobOf("k3,10;p0,5;");
        Check.due("not two", x.change(1, 0), Check.NONE);
        Check.due("not two", x.change(1, 1), Check.NONE);
        Check.due("change(0, 0)", x.change(0, 0), Check.BAD);
        Check.due("change(31, 0)", x.change(31, 0), Check.BAD);
        Check.due("change(1, 2)", x.change(1, 2), Check.BAD);
    }

    private static void hottest() {
        PuddingHobs x = Check.hobOf("k9,10;p0,4;p0,0;");
        Check.dueAll("heats", new int[] {x.hottest(1), x.hottest(2), x.hottest(30)}, 6, 3, 0);
        Check.due("9", Check.hobOf("k0,60;p0,0;").hottest(6), 9);
        x = Check.hobOf("k0,5;p0,6;p0,0;");
        Check.due("none", x.hottest(1), Check.NONE);
        x.hours(1);
        Check.due("those that are burst are past", x.hottest(1), 3);
        Check.due("hottest(0)", x.hottest(0), Check.BAD);
        Check.due("hottest(31)", x.hottest(31), Check.BAD);
    }

    private static void slices() {
        PuddingHobs x = Check.hobOf("k0,20;p5,0;s0,0;l3,0;b9,21;");
        Check.dueAll("17 of 17", sliced(x, 17), 5, 0, 3, 9);
        Check.dueAll("none", sliced(x, 0), 0, 0, 0, 0);
        Check.dueAll("1", sliced(x, 1), 1, 0, 0, 0);
        Check.dueAll("2", sliced(x, 2), 1, 0, 0, 1);
        Check.dueAll("16", sliced(x, 16), 5, 0, 3, 8);
        x.hours(1);
        Check.dueAll("10, one is burst", sliced(x, 10), 7, 0, 3, 0);
        Check.dueAll("999, one is burst", sliced(x, 999), 625, 0, 374, 0);
        Check.dueAll("one plum each", sliced(Check.hobOf("k0,20;p1,0;s1,0;l0,0;"), 3), 2, 1, 0);
        Check.dueAll("no plums", sliced(Check.hobOf("k0,20;p0,0;s0,0;"), 10), 0, 0);
        Check.due("slices(0, -1)", x.slices(0, -1), Check.BAD);
        Check.due("slices(0, 1000)", x.slices(0, 1000), Check.BAD);
        Check.due("slices(4, 1)", x.slices(4, 1), Check.BAD);
        Check.due("slices(-1, 1)", x.slices(-1, 1), Check.BAD);
    }

    private static int[] sliced(PuddingHobs x, int n) {
        int[] all = new int[x.count(1)];
        for (int b = 0; b < all.length; b++) {
            all[b] = x.slices(b, n);
        }
        return all;
    }

    private static void fits() {
        PuddingHobs x = Check.hobOf("k3,10;s8,1;");
        Check.rowOf(x, 5, 0, -1, 6, 11, 11);
        Check.dueAll("three hours", fitted(x, 3), 1 << 2, 0b1111 << 8, 1 << 3, 5, 6);
        Check.dueAll("one hour", fitted(x, 1), 1 << 2, 0b1111 << 8, 1 << 3, 56, 5);
        x.set(5, 2, 12);
        Check.dueAll("none is so", fitted(x, 2), 0, 0, 0, 0, Check.NONE);
        x = Check.hobOf("k0,60;r8,30;");
        Check.rowOf(x, 5, 1, 0, 30, 30, 30, 30, 30, 30, 30, 30, 30, 30, 30, 30);
        Check.dueAll("all are so", fitted(x, 12), 0b111110, (1 << 21) - 1, (1 << 10) - 1, 56, 5);
        x = Check.hobOf("k0,60;p0,30;p0,20;");
        Check.rowOf(x, 5, 2, 0, 23);
        int[] next = {x.fits(1, 5, 1, 1, 3), x.fits(1, 5, 1, 1, 4)};
        Check.dueAll("a cloth that bursts the one beside", next, 10, 20);
    }

    private static void fitsAtTheGreatestCloth() {
        PuddingHobs x = Check.hobOf("k5,60;p0,30;");
        x.hours(5);
        Check.rowOf(x, 5, 2, 0, 60, 65);
        Check.dueAll("60 alone", new int[] {x.fits(0, 5, 1, 2, 3), x.fits(0, 5, 1, 2, 4)}, 1, 60);
        x = Check.hobOf("k1,60;p0,30;");
        x.hours(1);
        x.heat(5);
        x.hours(5);
        Check.rowOf(x, 5, 2, 0, 61, 66);
        Check.dueAll("61 is none", new int[] {x.fits(0, 5, 1, 2, 3), x.fits(0, 5, 1, 2, 4)}, 0, Check.NONE);
    }

    private static int[] fitted(PuddingHobs x, int n) {
        int[] all = new int[5];
        for (int what = 0; what < 5; what++) {
            all[what] = x.fits(0, 5, 1, n, what);
        }
        return all;
    }

    private static void fitsRefused() {
        PuddingHobs x = Check.hobOf("k3,10;s8,1;");
        x.row(0, 0, 12);
        Check.due("12 items", x.fits(0, 0, 0, 12, 0), 0);
        Check.due("status()", x.status(), 0);
        Check.due("beyond the end", x.fits(0, 0, 1, 12, 0), Check.PLACE);
        Check.due("status()", x.status(), 2);
        Check.due("i below 0", x.fits(0, 0, -1, 1, 0), Check.PLACE);
        Check.due("greatest i", x.fits(0, 0, Integer.MAX_VALUE, 12, 0), Check.PLACE);
        Check.due("missing", x.fits(0, 1, -1, 1, 0), Check.NULL);
        Check.due("status()", x.status(), 1);
        Check.due("n 0", x.fits(0, 1, 0, 0, 0), Check.BAD);
        Check.due("n 13", x.fits(0, 1, 0, 13, 0), Check.BAD);
        Check.due("what 5", x.fits(0, 1, 0, 1, 5), Check.BAD);
        Check.due("what -1", x.fits(0, 1, 0, 1, -1), Check.BAD);
        Check.due("basin 1", x.fits(1, 1, 0, 1, 0), Check.BAD);
        Check.due("row 8", x.fits(0, 8, 0, 1, 0), Check.BAD);
        Check.due("row -1", x.fits(0, -1, 0, 1, 0), Check.BAD);
        Check.due("status()", x.status(), 1);
        x.fits(0, 0, 0, 1, 4);
        Check.due("status()", x.status(), 0);
    }

    private static void mice() {
        PuddingHobs x = Check.hobOf("k3,10;p0,8;b0,8;l0,0;");
        chance(x, 0, 1, 3, 7, 10);
        chance(x, 0, 1, 5, 1, 2);
        chance(x, 0, 1, 0, 1, 1);
        chance(x, 0, 1, 10, 0, 1);
        chance(x, 0, 0, 3, 0, 1);
        chance(x, 1, 1, 3, 49, 100);
        chance(x, 1, 1, 4, 9, 25);
        chance(x, 1, 30, 4, 9, 25);
        chance(x, 2, 30, 4, 0, 1);
        chance(x, 0, 1, 9, 1, 10);
        x.hours(1);
        chance(x, 0, 0, 10, 1, 1);
        x = Check.hobOf("k0,5;p0,6;p0,3;");
        chance(x, 0, 1, 2, 4, 5);
        chance(x, 1, 1, 2, 16, 25);
        chance(x, 1, 1, 10, 0, 1);
        chance(Check.hobOf("k9,5;p0,30;p0,30;p0,30;p0,30;p0,30;p0,30;p0,30;"), 6, 1, 1, 9, 10);
        int[] wrong = {x.mice(3, 0, 0, 0), x.mice(-1, 0, 0, 0), x.mice(0, -1, 0, 0), x.mice(0, 31, 0, 0),
            x.mice(0, 0, -1, 0), x.mice(0, 0, 11, 0), x.mice(0, 0, 0, 2), x.mice(0, 0, 0, -1)};
        for (int answer : wrong) {
            Check.due("mice", answer, Check.BAD);
        }
    }

    private static void chance(PuddingHobs x, int basin, int n, int c, int above, int below) {
        Check.dueAll("mice " + basin + " " + n + " " + c, new int[] {x.mice(basin, n, c, 0), x.mice(basin, n, c, 1)}, above, below);
    }

    /** By seed 1 X is 16807, 282475249, 1622650073, 984943658, 1144108930. */
    private static void drawn() {
        PuddingHobs x = Check.hobOf("k5,60;p0,10;");
        int[] swells = {x.drawn(0, 1, 1), x.drawn(1, 1, 1), x.drawn(2, 1, 1), x.drawn(3, 1, 1), x.drawn(4, 1, 1), x.drawn(5, 1, 1)};
        Check.dueAll("off, on, off, stirred, stirred", swells, 10, 10, 19, 19, 17, 15);
        Check.due("none is burst", x.drawn(5, 1, 0), 0);
        Check.due("stirred", x.drawn(1, 2, 1), 12);
        x = Check.hobOf("k5,11;p0,10;");
        Check.due("burst", x.drawn(1, 2, 0), 1);
        Check.due("swell of the others", x.drawn(1, 2, 1), 0);
        Check.due("seed 999999", x.drawn(60, 999999, 0), 1);
        int[] wrong = {x.drawn(-1, 1, 0), x.drawn(61, 1, 0), x.drawn(0, 0, 0), x.drawn(0, 1000000, 0), x.drawn(0, 1, 2),
            x.drawn(0, 1, -1)};
        for (int answer : wrong) {
            Check.due("drawn", answer, Check.BAD);
        }
    }

    private static void nothingChanges() {
        PuddingHobs x = Check.hobOf("k8,30;p5,9;s20,12;l3,28;b9,25;r1,10;");
        x.stir(3);
        x.on(1, 0);
        int[] counts = Check.counts(x);
        int[] swells = Check.swells(x);
        x.row(0, 0, 12);
        x.fits(0, 0, 0, 12, 0);
        x.drop(0);
        int[] answers = {x.swell(0, 60), x.burst(60), x.bursting(0), x.first(0), x.stirs(0, 30), x.off(30, 0),
            x.change(30, 0), x.hottest(30), x.slices(0, 9), x.mice(0, 30, 4, 0), x.drawn(60, 5, 0)};
        Check.due("answers", answers.length, 11);
        Check.dueAll("counts", Check.counts(x), counts);
        Check.dueAll("swells", Check.swells(x), swells);
        Check.dueAll("places", Check.ofEach(x, 2), 0, 1, 2, 3, 4);
        Check.dueAll("plums", Check.ofEach(x, 1), 5, 20, 3, 9, 1);
    }
}
