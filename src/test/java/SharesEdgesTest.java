/** Promises 26 to 31 at their edges: slices, what a row tells, mice, centuries, images. */
public final class SharesEdgesTest {
    private static final int MIN = Integer.MIN_VALUE, MAX = Integer.MAX_VALUE, NONE = Check.NONE;
    private static final int ALL_KINDS = 0b111110, ALL_PLUMS = (1 << 21) - 1, ALL_HEATS = (1 << 10) - 1;

    public static void main(String[] args) {
        slicesZeroToMost();
        slicesThatAreOver();
        slicesOfTheBurst();
        slicesWithoutPlums();
        aRowOfOneToTwelve();
        aRowUpToItsEnd();
        kindsByARow();
        plumsByARow();
        heatsByARow();
        clothsByARow();
        noClothAboveSixty();
        noneByARow();
        theBurstByARow();
        miceByTenths();
        miceForZeroToThirty();
        miceInLowestTerms();
        miceOfTheBurst();
        miceAndPushes();
        centuryZeroToSixty();
        centuryBySeeds();
        centuryOfTheBurst();
        imagesNotKept();
        imagesOfAll();
        Check.finish();
    }

    private static int[] sliced(PuddingHobs x, int n) {
        int[] all = new int[x.count(1)];
        for (int b = 0; b < all.length; b++) {
            all[b] = x.slices(b, n);
        }
        return all;
    }

    private static void slicesZeroToMost() {
        PuddingHobs x = Check.hobOf("k0,60;" + "p20,0;".repeat(7));
        Check.dueAll("0", sliced(x, 0), 0, 0, 0, 0, 0, 0, 0);
        Check.dueAll("1", sliced(x, 1), 1, 0, 0, 0, 0, 0, 0);
        Check.dueAll("998", sliced(x, 998), 143, 143, 143, 143, 142, 142, 142);
        Check.dueAll("999", sliced(x, 999), 143, 143, 143, 143, 143, 142, 142);
        for (int n : new int[] {MIN, -1, 1000, MAX}) {
            Check.due("slices " + n, x.slices(0, n), Check.BAD);
        }
        Check.dueAll("all to one", sliced(Check.hobOf("k0,60;p20,0;"), 999), 999);
        Check.dueAll("all to one with one plum", sliced(Check.hobOf("k0,60;p0,0;p1,0;"), 999), 0, 999);
    }

    /** What is over goes to the first that have plums, whatever is cut of theirs. */
    private static void slicesThatAreOver() {
        PuddingHobs x = Check.hobOf("k0,60;p0,0;p2,0;p0,0;p1,0;p1,0;");
        Check.dueAll("4 of 4", sliced(x, 4), 0, 2, 0, 1, 1);
        Check.dueAll("1 over", sliced(x, 5), 0, 3, 0, 1, 1);
        Check.dueAll("1 over", sliced(x, 6), 0, 4, 0, 1, 1);
        Check.dueAll("2 over", sliced(x, 7), 0, 4, 0, 2, 1);
        Check.dueAll("2 over of none", sliced(x, 3), 0, 2, 0, 1, 0);
        x.swap(1, 4);
        Check.dueAll("first by number, not by place", sliced(x, 7), 0, 4, 0, 2, 1);
        x = Check.hobOf("k0,60;p1,0;p20,0;p20,0;");
        Check.dueAll("one that has few is first, too", sliced(x, 1), 1, 0, 0);
    }

    private static void slicesOfTheBurst() {
        PuddingHobs x = Check.hobOf("k0,10;p9,11;p1,0;p2,0;");
        Check.dueAll("ahead", sliced(x, 12), 9, 1, 2);
        x.hours(1);
        Check.dueAll("behind", sliced(x, 12), 0, 4, 8);
        Check.dueAll("over", sliced(x, 13), 0, 5, 8);
        x = Check.hobOf("k0,10;p9,11;p0,0;");
        x.hours(1);
        Check.dueAll("all plums are in one that is burst", sliced(x, 999), 0, 0);
        x = Check.hobOf("k0,10;p9,11;p9,11;");
        x.hours(1);
        Check.dueAll("all are burst", sliced(x, 999), 0, 0);
    }

    private static void slicesWithoutPlums() {
        PuddingHobs x = Check.hobOf("k0,60;" + "p0,0;".repeat(7));
        Check.dueAll("none has plums", sliced(x, 999), 0, 0, 0, 0, 0, 0, 0);
        x.plums(6, 1);
        Check.dueAll("one plum", sliced(x, 999), 0, 0, 0, 0, 0, 0, 999);
    }

    private static int[] fitted(PuddingHobs x, int basin, int row, int i, int n) {
        int[] all = new int[5];
        for (int what = 0; what < 5; what++) {
            all[what] = x.fits(basin, row, i, n, what);
        }
        return all;
    }

    private static void aRowOfOneToTwelve() {
        PuddingHobs x = Check.hobOf("k1,60;p0,0;");
        Check.rowOf(x, 0, 0, 1, 2, 3, 4, 5, 6, 7, 8, 9, 10, 11, 12);
        for (int n = 1; n <= 12; n++) {
            Check.due("n " + n, x.fits(0, 0, 0, n, 2), 0b10);
        }
        for (int n : new int[] {MIN, -1, 0, 13, MAX}) {
            Check.due("n " + n, x.fits(0, 0, 0, n, 2), Check.BAD);
        }
        x.set(0, 11, 13);
        Check.due("the twelfth counts", x.fits(0, 0, 0, 12, 2), 0);
        Check.due("not of eleven", x.fits(0, 0, 0, 11, 2), 0b10);
        x.set(0, 0, 0);
        Check.due("the first counts", x.fits(0, 0, 0, 11, 2), 0);
        Check.due("from now on", x.fits(0, 0, 1, 1, 2), 0b100);
    }

    private static void aRowUpToItsEnd() {
        PuddingHobs x = Check.hobOf("k0,60;p0,0;");
        x.row(7, 2, 40);
        Check.due("up to the end", x.fits(0, 7, 28, 12, 3), 56);
        int[][] beyond = {{29, 12}, {40, 1}, {41, 1}, {-1, 1}, {-1, 12}, {MIN, 1}, {MIN, 12}, {MAX, 1}, {MAX, 12},
            {MAX - 11, 12}};
        for (int[] at : beyond) {
            Check.due("from " + at[0] + ", " + at[1], x.fits(0, 7, at[0], at[1], 3), Check.PLACE);
        }
        Check.due("the last", x.fits(0, 7, 39, 1, 3), 56);
    }

    private static void kindsByARow() {
        PuddingHobs x = Check.hobOf("k3,60;p8,10;");
        Check.rowOf(x, 0, 0, 13, 15, 11, 10, 16, 9);
        int[] kinds = {x.fits(0, 0, 0, 1, 0), x.fits(0, 0, 1, 1, 0), x.fits(0, 0, 2, 1, 0), x.fits(0, 0, 3, 1, 0),
            x.fits(0, 0, 4, 1, 0)};
        Check.dueAll("unstirred", kinds, 1 << 1, 1 << 2, 1 << 3, 1 << 4 | 1 << 5, 0);
        x.plums(0, 1);
        x.stir(0);
        Check.rowOf(x, 0, 0, 11, 13, 9, 14);
        kinds = new int[] {x.fits(0, 0, 0, 1, 0), x.fits(0, 0, 1, 1, 0), x.fits(0, 0, 2, 1, 0), x.fits(0, 0, 3, 1, 0)};
        Check.dueAll("stirred", kinds, 1 << 1 | 1 << 4, 1 << 2, 1 << 3, 1 << 5);
        x.on(0, 0);
        Check.rowOf(x, 0, 0, 8);
        Check.due("off", x.fits(0, 0, 0, 1, 0), ALL_KINDS);
        Check.due("the kind stays", x.kind(0), 1);
    }

    private static void plumsByARow() {
        PuddingHobs x = Check.hobOf("k1,60;s9,0;s9,0;");
        Check.rowOf(x, 0, 0, 0, 1, 2, 3, 4, 5, 6, 7);
        int[] want = {0, 0xf, 0xf0, 0xf00, 0xf000, 0xf0000, 1 << 20, 0};
        for (int i = 0; i < want.length; i++) {
            Check.due("swell " + i, x.fits(0, 0, i, 1, 1), want[i]);
        }
        Check.due("without glow", x.fits(1, 0, 0, 1, 1), ALL_PLUMS);
        Check.due("the plums stay", x.basin(0, 1), 9);
    }

    private static void heatsByARow() {
        PuddingHobs x = Check.hobOf("k5,60;" + "p0,0;".repeat(7));
        Check.rowOf(x, 0, 0, 0, 1, 2, 3, 4, 5, 6, 7, 8, 9, 10);
        for (int i = 0; i <= 10; i++) {
            Check.due("in place 0, " + i, x.fits(0, 0, i, 1, 2), i == 10 ? 0 : 1 << i);
        }
        int[] cold = {x.fits(6, 0, 0, 1, 2), x.fits(6, 0, 1, 1, 2), x.fits(6, 0, 3, 1, 2), x.fits(6, 0, 4, 1, 2)};
        Check.dueAll("in place 6", cold, 127, 1 << 7, 1 << 9, 0);
        x.on(0, 0);
        Check.due("off", x.fits(0, 0, 0, 1, 2), ALL_HEATS);
        Check.due("the heat stays", x.count(3), 5);
    }

    private static void clothsByARow() {
        PuddingHobs x = Check.hobOf("k1,20;p0,0;");
        Check.rowOf(x, 0, 0, 1, 2, 3, 4, 5, 6, 6, 7, 8, 9, 10, 11);
        Check.dueAll("any", new int[] {x.fits(0, 0, 0, 6, 3), x.fits(0, 0, 0, 6, 4)}, 56, 5);
        Check.dueAll("5 alone", new int[] {x.fits(0, 0, 0, 7, 3), x.fits(0, 0, 0, 7, 4)}, 1, 5);
        Check.dueAll("none", new int[] {x.fits(0, 0, 0, 8, 3), x.fits(0, 0, 0, 8, 4)}, 0, NONE);
        x.set(0, 6, 7);
        Check.dueAll("all but 5", new int[] {x.fits(0, 0, 0, 7, 3), x.fits(0, 0, 0, 7, 4)}, 55, 6);
        Check.due("the cloth stays", x.count(4), 20);
        x = Check.hobOf("k5,60;p0,30;");
        x.hours(5);
        Check.rowOf(x, 0, 0, 60, 65, 65);
        Check.dueAll("60 alone", new int[] {x.fits(0, 0, 0, 2, 3), x.fits(0, 0, 0, 2, 4)}, 1, 60);
        Check.dueAll("not even 60", new int[] {x.fits(0, 0, 1, 2, 3), x.fits(0, 0, 1, 2, 4)}, 0, NONE);
        Check.rowOf(x, 0, 0, 60, 60);
        Check.dueAll("all but 60", new int[] {x.fits(0, 0, 0, 2, 3), x.fits(0, 0, 0, 2, 4)}, 55, 5);
    }

    /** By a cloth of 61 alone it would be so. */
    private static void noClothAboveSixty() {
        PuddingHobs x = Check.hobOf("k1,60;p0,30;");
        x.hours(1);
        x.heat(5);
        x.hours(5);
        Check.rowOf(x, 0, 0, 61, 66);
        Check.dueAll("none", new int[] {x.fits(0, 0, 0, 2, 3), x.fits(0, 0, 0, 2, 4)}, 0, NONE);
    }

    private static void noneByARow() {
        PuddingHobs x = Check.hobOf("k3,60;s8,1;");
        Check.rowOf(x, 0, 2, -1, 100, MIN, MAX, 256 + 6);
        for (int i = 0; i < 5; i++) {
            Check.dueAll("none is so", fitted(x, 0, 0, i, 1), 0, 0, 0, 0, NONE);
            Check.due("status()", x.status(), 0);
        }
    }

    private static void theBurstByARow() {
        PuddingHobs x = Check.hobOf("k3,10;s8,11;");
        x.hours(1);
        Check.rowOf(x, 0, 0, 16, 16, 16, 16, 16, 16, 16, 16, 16, 16, 16, 16);
        Check.dueAll("all are so", fitted(x, 0, 0, 0, 12), ALL_KINDS, ALL_PLUMS, ALL_HEATS, 56, 5);
        x.set(0, 11, 17);
        Check.dueAll("none is so", fitted(x, 0, 0, 0, 12), 0, 0, 0, 0, NONE);
    }

    private static void chance(PuddingHobs x, int basin, int n, int c, int above, int below) {
        String call = "mice " + basin + " " + n + " " + c;
        Check.dueAll(call, new int[] {x.mice(basin, n, c, 0), x.mice(basin, n, c, 1)}, above, below);
    }

    private static void miceByTenths() {
        PuddingHobs x = Check.hobOf("k0,5;p0,6;");
        int[][] tenths = {{1, 1}, {9, 10}, {4, 5}, {7, 10}, {3, 5}, {1, 2}, {2, 5}, {3, 10}, {1, 5}, {1, 10}, {0, 1}};
        for (int c = 0; c <= 10; c++) {
            chance(x, 0, 1, c, tenths[c][0], tenths[c][1]);
        }
        for (int c : new int[] {MIN, -1, 11, MAX}) {
            Check.due("mice by " + c, x.mice(0, 1, c, 0), Check.BAD);
            Check.due("mice by " + c, x.mice(0, 1, c, 1), Check.BAD);
        }
    }

    private static void miceForZeroToThirty() {
        PuddingHobs x = Check.hobOf("k1,29;p0,0;");
        chance(x, 0, 0, 0, 0, 1);
        chance(x, 0, 29, 0, 0, 1);
        chance(x, 0, 30, 0, 1, 1);
        chance(x, 0, 30, 3, 7, 10);
        for (int n : new int[] {MIN, -1, 31, MAX}) {
            Check.due("mice for " + n, x.mice(0, n, 3, 0), Check.BAD);
        }
        chance(Check.hobOf("k0,5;p0,6;"), 0, 0, 0, 0, 1);
    }

    /** The last of a chain of seven bursts if mice have had none of them. */
    private static void miceInLowestTerms() {
        PuddingHobs x = Check.hobOf("k0,10;p0,11;" + "p0,8;".repeat(6));
        chance(x, 6, 1, 1, 4782969, 10000000);
        chance(x, 6, 1, 9, 1, 10000000);
        chance(x, 6, 1, 2, 16384, 78125);
        chance(x, 6, 1, 5, 1, 128);
        chance(x, 6, 1, 0, 1, 1);
        chance(x, 6, 1, 10, 0, 1);
        chance(x, 1, 1, 1, 81, 100);
        chance(x, 0, 1, 5, 1, 2);
    }

    private static void miceOfTheBurst() {
        PuddingHobs x = Check.hobOf("k0,5;p0,6;p0,0;");
        x.hours(1);
        for (int c = 0; c <= 10; c++) {
            chance(x, 0, 0, c, 1, 1);
            chance(x, 0, 30, c, 1, 1);
            chance(x, 1, 30, c, 0, 1);
        }
        Check.due("the swell stays", x.basin(0, 0), 6);
        Check.due("all are on yet", x.count(6), 3);
    }

    /** One that mice have had is off, at 0, and in its place: two that burst beside it push it above a cloth of 5. */
    private static void miceAndPushes() {
        PuddingHobs x = Check.hobOf("k0,5;p0,6;p0,0;p0,6;");
        chance(x, 1, 1, 5, 1, 4);
        chance(x, 1, 1, 1, 81, 100);
        x = Check.hobOf("k0,6;p0,7;p0,1;p0,7;");
        chance(x, 1, 1, 5, 1, 8);
        x = Check.hobOf("k3,5;p0,4;");
        chance(x, 0, 30, 7, 3, 10);
    }

    private static void centuryZeroToSixty() {
        PuddingHobs x = Check.hobOf("k5,60;b1,10;r3,4;l0,5;b2,30;b0,0;r0,9;b7,7;");
        int[][] told = {{0, 65, 65}, {1, 67, 68}, {2, 70, 68}, {3, 70, 71}, {59, 88, 91}, {60, 88, 94}};
        for (int[] t : told) {
            Check.dueAll(t[0] + " hours", new int[] {x.drawn(t[0], 1, 1), x.drawn(t[0], 999999, 1)}, t[1], t[2]);
            Check.dueAll("burst", new int[] {x.drawn(t[0], 1, 0), x.drawn(t[0], 999999, 0)}, 0, 0);
        }
        for (int n : new int[] {MIN, -1, 61, MAX}) {
            Check.due("drawn " + n, x.drawn(n, 1, 0), Check.BAD);
        }
        Check.dueAll("counts", Check.counts(x), 0, 7, 0, 5, 60, 0, 127, 0, 0, 0);
    }

    /** By seed 999999 X is 1774597664, then 1410049312: heat 4, then 2, and a stir each. */
    private static void centuryBySeeds() {
        PuddingHobs x = Check.hobOf("k9,60;p0,10;");
        Check.dueAll("the greatest", new int[] {x.drawn(1, 999999, 1), x.drawn(2, 999999, 1)}, 12, 12);
        Check.dueAll("the least: off, then on by heat 9", new int[] {x.drawn(1, 1, 1), x.drawn(2, 1, 1)}, 10, 19);
        for (int seed : new int[] {MIN, MIN + 1, -1, 0, 1000000, MAX - 1, MAX}) {
            Check.due("seed " + seed, x.drawn(1, seed, 0), Check.BAD);
        }
    }

    private static void centuryOfTheBurst() {
        PuddingHobs x = Check.hobOf("k0,5;p0,6;p0,1;");
        x.hours(1);
        Check.dueAll("now", new int[] {x.drawn(0, 1, 0), x.drawn(0, 1, 1)}, 1, 4);
        x = Check.hobOf("k0,5;p0,6;");
        x.hours(1);
        Check.dueAll("all are burst", new int[] {x.drawn(60, 1, 0), x.drawn(60, 1, 1)}, 1, 0);
    }

    private static void imagesNotKept() {
        PuddingHobs x = new PuddingHobs();
        Check.dueAll("no hob", new int[] {x.image(0), x.image(1), x.restore(0), x.restore(1)}, Check.STATE, Check.STATE,
            Check.STATE, Check.STATE);
        Check.read(x, "k1,60;p0,0;");
        x.hours(3);
        Check.dueAll("none was kept", new int[] {x.restore(0), x.restore(1)}, Check.STATE, Check.STATE);
        Check.due("0 is kept", x.image(0), 1);
        Check.due("1 was not", x.restore(1), Check.STATE);
        Check.dueAll("nothing changed", new int[] {x.count(2), x.count(8), x.basin(0, 0)}, 3, 3, 3);
        for (int k : new int[] {MIN, -1, 2, MAX}) {
            Check.dueAll("image " + k, new int[] {x.image(k), x.restore(k)}, Check.BAD, Check.BAD);
        }
        Check.due("0 was", x.restore(0), 1);
        Check.due("no act can be undone", x.undo(), Check.STATE);
    }

    /** An image of a full hob beside one of the least; neither is touched by what comes later. */
    private static void imagesOfAll() {
        PuddingHobs x = Check.hobOf("k9,10;" + "b20,11;".repeat(6) + "b3,0;");
        x.stir(6);
        x.hours(1);
        x.stir(6);
        x.on(0, 0);
        x.swap(0, 6);
        x.image(0);
        int[] counts = Check.counts(x);
        counts[8] = 0;
        Check.read(x, "k0,60;p0,0;");
        x.image(1);
        for (int pass = 0; pass < 2; pass++) {
            Check.due("restore(0)", x.restore(0), 1);
            Check.dueAll("counts", Check.counts(x), counts);
            Check.dueAll("places", Check.ofEach(x, 2), 6, 1, 2, 3, 4, 5, 0);
            Check.dueAll("swells", Check.swells(x), 11, 11, 11, 11, 11, 11, 4);
            Check.dueAll("kinds", new int[] {x.kind(0), x.kind(6)}, 4, 4);
            x.swap(0, 6);
            x.hours(2);
            x.heat(0);
            Check.due("restore(1)", x.restore(1), 1);
            Check.dueAll("counts", Check.counts(x), 0, 1, 0, 0, 60, 0, 1, 0, 0, 0);
            Check.due("kind", x.kind(0), 1);
            Check.due("undo()", x.undo(), Check.STATE);
            x.heat(9);
        }
    }
}
