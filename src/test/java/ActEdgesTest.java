import java.util.Arrays;

/** Promises 9 to 17 at their edges: glow and swell at their ends, rounds, 24 acts, HOUR 9999. */
public final class ActEdgesTest {
    private static final int MIN = Integer.MIN_VALUE, MAX = Integer.MAX_VALUE;
    private static final int[] HALF = {0, 0, 1, 1, 2, 2, 3, 3, 4, 4};
    private static final int[] QUARTER = {0, 0, 0, 0, 1, 1, 1, 1, 2, 2, 2, 2, 3, 3, 3, 3, 4, 4, 4, 4, 5};

    public static void main(String[] args) {
        glowIsZeroAtLeast();
        growthOfEachKind();
        quartersOfPlums();
        stirredForOneHour();
        swellIsZeroAtLeast();
        theGreatestSwell();
        burstIsAboveTheCloth();
        aRoundPushesByThree();
        placesHaveTwoEnds();
        roundByRound();
        theBurstStay();
        hoursOneToTwentyFour();
        hourBeyondTheLast();
        fullChangesNothing();
        twentyFourActs();
        oneActMore();
        hoursForgetWhatIsOlder();
        undoOfActsThatChangeNothing();
        plumsAreTwentyAtMost();
        onAndOffOfAll();
        swapOfTheBurst();
        placesOfAll();
        Check.finish();
    }

    private static PuddingHobs seven(int heat, int cloth, String basin) {
        return Check.hobOf("k" + heat + "," + cloth + ";" + basin.repeat(7));
    }

    private static void glowIsZeroAtLeast() {
        for (int heat = 0; heat <= 9; heat++) {
            PuddingHobs x = seven(heat, 60, "p0,0;");
            int[] want = new int[7];
            for (int place = 0; place < heat && place < 7; place++) {
                want[place] = heat - place;
            }
            Check.dueAll("glow at heat " + heat, Check.ofEach(x, 5), want);
            for (int b = 0; b < 7; b++) {
                x.on(b, 0);
            }
            Check.dueAll("glow of those that are off", Check.ofEach(x, 5), 0, 0, 0, 0, 0, 0, 0);
        }
    }

    private static void growthOfEachKind() {
        for (int heat = 0; heat <= 9; heat++) {
            int half = HALF[heat];
            int spotted = heat == 0 ? 0 : heat + 5;
            growth("p20,3;", heat, heat, heat);
            growth("s20,3;", heat, spotted, spotted);
            growth("l20,3;", heat, half, half);
            growth("b20,3;", heat, 0, heat);
            growth("r20,3;", heat, 0, 2 * heat);
        }
    }

    /** In place 0 the glow is the heat. */
    private static void growth(String basin, int heat, int unstirred, int stirred) {
        PuddingHobs x = Check.hobOf("k" + heat + ",60;" + basin);
        Check.due(basin + " by heat " + heat, x.basin(0, 6), unstirred);
        x.hours(1);
        Check.due(basin + " behind an hour", x.basin(0, 0), 3 + unstirred);
        x.undo();
        x.stir(0);
        Check.due(basin + " stirred", x.basin(0, 6), stirred);
        x.hours(1);
        Check.due(basin + " stirred, behind an hour", x.basin(0, 0), 1 + stirred);
        x.on(0, 0);
        x.stir(0);
        Check.due(basin + " off", x.basin(0, 6), 0);
    }

    private static void quartersOfPlums() {
        for (int plums = 0; plums <= 20; plums++) {
            PuddingHobs x = Check.hobOf("k1,60;s" + plums + ",0;s" + plums + ",0;");
            Check.dueAll("a quarter of " + plums + ", but not without glow", Check.ofEach(x, 6), 1 + QUARTER[plums], 0);
            x.hours(1);
            Check.dueAll("behind an hour", Check.swells(x), 1 + QUARTER[plums], 0);
        }
    }

    private static void stirredForOneHour() {
        PuddingHobs x = seven(9, 60, "b0,9;");
        for (int b = 0; b < 7; b++) {
            x.stir(b);
            Check.due("stirred", x.count(7), (2 << b) - 1);
        }
        x.stir(0);
        Check.due("stirred twice is stirred", x.count(7), 127);
        x.hours(1);
        Check.due("none any more", x.count(7), 0);
        Check.dueAll("swells", Check.swells(x), 14, 15, 14, 13, 12, 11, 10);
        x.hours(24);
        Check.dueAll("they stay", Check.swells(x), 14, 15, 14, 13, 12, 11, 10);
        x.stir(6);
        x.hours(2);
        Check.due("of two hours but the first", x.basin(6, 0), 11);
    }

    private static void swellIsZeroAtLeast() {
        for (int swell = 0; swell <= 30; swell++) {
            PuddingHobs x = Check.hobOf("k0,60;l0," + swell + ";");
            Check.due("stirred at " + swell, x.stir(0), Math.max(0, swell - 2));
            Check.due("swell", x.basin(0, 0), Math.max(0, swell - 2));
            Check.due("undone", x.undo(), 0);
            Check.due("swell", x.basin(0, 0), swell);
        }
    }

    /** No run of calls comes near 99: what swells stands at 60 at most, and grows by 18, less a stir, at most. */
    private static void theGreatestSwell() {
        PuddingHobs x = Check.hobOf("k9,60;r0,28;");
        for (int hour = 0; hour < 2; hour++) {
            x.stir(0);
            Check.due("up to the cloth", x.hours(1), 0);
        }
        Check.due("60", x.basin(0, 0), 60);
        x.stir(0);
        Check.due("it bursts", x.hours(1), 1);
        Check.due("at 76", x.basin(0, 0), 76);
        Check.due("for good", x.swell(0, 60), 76);
    }

    private static void burstIsAboveTheCloth() {
        for (int cloth = 5; cloth <= 60; cloth++) {
            PuddingHobs x = Check.hobOf("k1," + cloth + ";p0,0;");
            int left = cloth;
            while (left > 0) {
                int hours = Math.min(24, left);
                Check.due("up to the cloth", x.hours(hours), 0);
                left -= hours;
            }
            Check.due("as much as the cloth", x.basin(0, 0), cloth);
            Check.due("not burst", x.basin(0, 4), 0);
            Check.due("above the cloth", x.hours(1), 1);
            Check.due("burst", x.basin(0, 4), 1);
            Check.due("by one", x.basin(0, 0), cloth + 1);
        }
    }

    private static void aRoundPushesByThree() {
        dueBurst("k0,10;p0,11;p0,7;", 0b01, 11, 10);
        dueBurst("k0,10;p0,11;p0,8;", 0b11, 11, 11);
        dueBurst("k0,10;p0,11;p0,4;p0,11;", 0b101, 11, 10, 11);
        dueBurst("k0,10;p0,11;p0,5;p0,11;", 0b111, 11, 11, 11);
        dueBurst("k0,10;p0,11;p0,11;p0,0;", 0b011, 11, 11, 3);
        dueBurst("k0,10;p0,11;p0,11;p0,11;p0,11;p0,11;p0,11;p0,11;", 0b1111111, 11, 11, 11, 11, 11, 11, 11);
        dueBurst("k0,10;p0,10;p0,10;p0,10;", 0, 10, 10, 10);
        // In the second round the first one is pushed no more, and the third one by one push alone.
        dueBurst("k0,10;p0,11;p0,8;p0,7;", 0b011, 11, 11, 10);
        dueBurst("k0,10;p0,11;p0,8;p0,8;", 0b111, 11, 11, 11);
        // The middle one is pushed from the left in round 1, from the right in round 2.
        dueBurst("k0,10;p0,11;p0,2;p0,8;p0,11;", 0b1101, 11, 8, 11, 11);
        dueBurst("k0,10;p0,11;p0,5;p0,8;p0,11;", 0b1111, 11, 11, 11, 11);
    }

    private static void dueBurst(String text, int burst, int... swells) {
        PuddingHobs x = Check.hobOf(text);
        Check.due("burst of " + text, x.hours(1), burst);
        Check.dueAll("swells of " + text, Check.swells(x), swells);
        Check.due("nothing more of " + text, x.hours(24), burst);
        Check.dueAll("swells of " + text, Check.swells(x), swells);
    }

    private static void placesHaveTwoEnds() {
        dueBurst("k0,10;p0,11;p0,0;p0,0;p0,0;p0,0;p0,0;p0,0;", 1, 11, 3, 0, 0, 0, 0, 0);
        dueBurst("k0,10;p0,0;p0,0;p0,0;p0,0;p0,0;p0,0;p0,11;", 64, 0, 0, 0, 0, 0, 3, 11);
        PuddingHobs x = Check.hobOf("k0,10;p0,11;p0,0;p0,0;");
        x.swap(0, 1);
        x.hours(1);
        Check.dueAll("in the middle", Check.swells(x), 11, 3, 3);
    }

    private static void roundByRound() {
        dueBurst("k0,10;p0,11;p0,8;p0,8;p0,8;p0,8;p0,8;p0,8;", 127, 11, 11, 11, 11, 11, 11, 11);
        dueBurst("k0,10;p0,8;p0,8;p0,8;p0,8;p0,8;p0,8;p0,11;", 127, 11, 11, 11, 11, 11, 11, 11);
        dueBurst("k0,10;p0,8;p0,8;p0,8;p0,11;p0,8;p0,8;p0,8;", 127, 11, 11, 11, 11, 11, 11, 11);
        dueBurst("k0,10;p0,11;p0,8;p0,8;p0,8;p0,8;p0,8;p0,7;", 63, 11, 11, 11, 11, 11, 11, 10);
        PuddingHobs x = Check.hobOf("k0,10;p0,11;p0,8;p0,8;p0,8;p0,8;p0,8;p0,8;");
        x.hours(1);
        Check.due("all in one hour", x.count(2), 1);
        Check.due("which is one act", x.undo(), 0);
        Check.due("undone whole", x.count(5), 0);
    }

    private static void theBurstStay() {
        PuddingHobs x = Check.hobOf("k9,10;p7,11;p0,0;");
        x.hours(1);
        Check.due("burst", x.count(5), 0b11);
        int[] before = Check.swells(x);
        Check.due("no stir", x.stir(0), Check.STATE);
        Check.due("no plums", x.plums(0, 1), Check.STATE);
        Check.due("no growth", x.basin(0, 6), 0);
        Check.due("but a glow", x.basin(0, 5), 9);
        x.hours(24);
        Check.dueAll("swells", Check.swells(x), before);
        Check.due("plums", x.basin(0, 1), 7);
    }

    private static void hoursOneToTwentyFour() {
        for (int n = 1; n <= 24; n++) {
            PuddingHobs x = Check.hobOf("k1,60;p0,0;");
            Check.due("hours " + n, x.hours(n), 0);
            Check.dueAll("HOUR, acts, swell", new int[] {x.count(2), x.count(8), x.basin(0, 0)}, n, n, n);
        }
        PuddingHobs x = Check.hobOf("k1,60;p0,0;");
        for (int n : new int[] {MIN, -24, -1, 0, 25, 256 + 1, MAX}) {
            Check.due("hours " + n, x.hours(n), Check.BAD);
        }
        Check.dueAll("HOUR, acts, swell", new int[] {x.count(2), x.count(8), x.basin(0, 0)}, 0, 0, 0);
    }

    private static PuddingHobs atHour9975() {
        PuddingHobs x = Check.hobOf("k1,60;p0,0;");
        x.heat(0);
        for (int call = 0; call < 415; call++) {
            x.hours(24);
        }
        x.hours(15);
        return x;
    }

    private static void hourBeyondTheLast() {
        PuddingHobs x = atHour9975();
        Check.due("HOUR", x.count(2), 9975);
        Check.due("up to HOUR 9999", x.hours(24), 0);
        Check.due("HOUR", x.count(2), 9999);
        for (int n = 1; n <= 24; n++) {
            Check.due("beyond it by " + n, x.hours(n), Check.FULL);
        }
        for (int n : new int[] {MIN, 0, 25, MAX}) {
            Check.due("BAD ahead of FULL", x.hours(n), Check.BAD);
        }
        Check.due("HOUR", x.count(2), 9999);
        Check.due("foretold beyond it", x.burst(60), 0);
        Check.due("a century beyond it", x.drawn(60, 1, 0) >= 0);
        Check.due("undo()", x.undo(), 23);
        Check.due("two are too many", x.hours(2), Check.FULL);
        Check.due("one is not", x.hours(1), 0);
        Check.due("a hob", Check.read(x, "k1,60;p0,0;"), 1);
        Check.due("begins anew", x.hours(24), 0);
    }

    private static void fullChangesNothing() {
        PuddingHobs x = atHour9975();
        x.heat(1);
        x.hours(1);
        x.stir(0);
        int[] counts = Check.counts(x);
        Check.due("24 from HOUR 9976", x.hours(24), Check.FULL);
        Check.dueAll("counts", Check.counts(x), counts);
        Check.due("stirred yet", x.count(7), 1);
        Check.due("undo()", x.undo(), 23);
        Check.due("swell", x.basin(0, 0), 1);
        Check.due("23 from HOUR 9976", x.hours(23), 0);
        Check.due("HOUR", x.count(2), 9999);
        Check.due("swell", x.basin(0, 0), 24);
    }

    /** A hob behind acts of each kind in turn. */
    private static PuddingHobs behind(int acts) {
        PuddingHobs x = Check.hobOf("k5,60;p0,9;b3,9;");
        for (int n = 1; n <= acts; n++) {
            switch (n % 7) {
                case 0: x.heat(n % 10); break;
                case 1: x.hours(1); break;
                case 2: x.stir(0); break;
                case 3: x.on(1, 0); break;
                case 4: x.swap(0, 1); break;
                case 5: x.plums(0, 1); break;
                default: x.on(1, 1);
            }
        }
        return x;
    }

    /** All that acts change. */
    private static int[] standing(PuddingHobs x) {
        return new int[] {x.count(2), x.count(3), x.count(5), x.count(6), x.count(7), x.basin(0, 0), x.basin(0, 1),
            x.basin(0, 2), x.basin(1, 0), x.basin(1, 1), x.basin(1, 2)};
    }

    private static void undoFrom(int acts) {
        PuddingHobs x = behind(acts);
        int kept = Math.min(24, acts);
        Check.due("acts", x.count(8), kept);
        for (int n = 1; n <= kept; n++) {
            int[] stood = standing(behind(acts - n));
            Check.due("undo " + n + " of " + acts, x.undo(), kept - n);
            Check.dueAll("as it stood", standing(x), stood);
            Check.due("the act did something", !Arrays.equals(standing(behind(acts - n + 1)), stood));
        }
        Check.due("no more", x.undo(), Check.STATE);
        Check.dueAll("as it stood", standing(x), standing(behind(acts - kept)));
        Check.due("acts", x.count(8), 0);
    }

    private static void twentyFourActs() {
        undoFrom(0);
        undoFrom(1);
        undoFrom(23);
        undoFrom(24);
    }

    private static void oneActMore() {
        undoFrom(25);
        undoFrom(27);
    }

    private static void hoursForgetWhatIsOlder() {
        PuddingHobs x = Check.hobOf("k1,60;p0,0;");
        x.heat(2);
        x.hours(23);
        Check.due("24 are kept", x.count(8), 24);
        x.hours(1);
        Check.due("24 are kept", x.count(8), 24);
        for (int left = 23; left >= 0; left--) {
            Check.due("undo()", x.undo(), left);
        }
        Check.due("the heat is not undone", x.count(3), 2);
        Check.due("HOUR 0", x.count(2), 0);
        Check.due("no more", x.undo(), Check.STATE);
        x.heat(3);
        x.hours(24);
        Check.due("hours alone", x.count(8), 24);
    }

    /** An act counts, though what it gives was there before. */
    private static void undoOfActsThatChangeNothing() {
        PuddingHobs x = Check.hobOf("k4,60;p20,0;");
        Check.due("plums into 20", x.plums(0, 20), 20);
        Check.due("the heat that is", x.heat(4), 4);
        x.hours(1);
        x.stir(0);
        x.stir(0);
        x.stir(0);
        Check.due("acts", x.count(8), 6);
        Check.due("undo()", x.undo(), 5);
        Check.due("stirred yet", x.count(7), 1);
        for (int left = 4; left >= 0; left--) {
            Check.due("undo()", x.undo(), left);
        }
        Check.due("no more", x.undo(), Check.STATE);
    }

    private static void plumsAreTwentyAtMost() {
        for (int had = 0; had <= 20; had++) {
            PuddingHobs x = Check.hobOf("k0,5;s" + had + ",0;");
            for (int n : new int[] {1, 19, 20}) {
                Check.due(n + " to " + had, x.plums(0, n), Math.min(20, had + n));
                Check.due("plums", x.basin(0, 1), Math.min(20, had + n));
                x.undo();
                Check.due("undone", x.basin(0, 1), had);
            }
            for (int n : new int[] {MIN, -1, 0, 21, MAX}) {
                Check.due(n + " to " + had, x.plums(0, n), Check.BAD);
            }
        }
    }

    private static void onAndOffOfAll() {
        PuddingHobs x = seven(9, 60, "p0,0;");
        for (int b = 0; b < 7; b++) {
            Check.due("it is on", x.on(b, 1), Check.STATE);
            Check.due("off", x.on(b, 0), 127 & -(2 << b));
            Check.due("it is off", x.on(b, 0), Check.STATE);
        }
        Check.due("none is on", x.count(6), 0);
        x.hours(24);
        Check.dueAll("none swells", Check.swells(x), 0, 0, 0, 0, 0, 0, 0);
        for (int b = 6; b >= 0; b--) {
            Check.due("on", x.on(b, 1), 127 & -(1 << b));
        }
    }

    private static void swapOfTheBurst() {
        PuddingHobs x = Check.hobOf("k0,10;p0,11;p0,0;p0,0;");
        x.hours(1);
        Check.due("one that is burst changes, too", x.swap(0, 2), 2);
        Check.due("it is burst yet", x.count(5), 1);
        x.heat(3);
        Check.dueAll("glow", Check.ofEach(x, 5), 1, 2, 3);
        Check.due("one that is burst is put off, too", x.on(0, 0), 0b110);
        Check.due("and on", x.on(0, 1), 0b111);
        Check.due("alike", x.swap(0, 0), Check.BAD);
        Check.due("alike, and none", x.swap(3, 3), Check.BAD);
        Check.due("alike, and none", x.swap(MIN, MIN), Check.BAD);
    }

    private static void placesOfAll() {
        PuddingHobs x = seven(9, 60, "p0,0;");
        int[] answers = {x.swap(0, 6), x.swap(1, 5), x.swap(6, 3), x.swap(5, 6)};
        Check.dueAll("the place of the one", answers, 6, 5, 3, 3);
        Check.dueAll("places", Check.ofEach(x, 2), 6, 5, 2, 0, 4, 3, 1);
        int[] there = {x.place(0), x.place(1), x.place(2), x.place(3), x.place(4), x.place(5), x.place(6)};
        Check.dueAll("basins", there, 3, 6, 2, 5, 4, 1, 0);
        for (int place : new int[] {MIN, -1, 7, MAX}) {
            Check.due("place " + place, x.place(place), Check.BAD);
        }
    }
}
