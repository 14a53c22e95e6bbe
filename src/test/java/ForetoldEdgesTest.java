/** Promises 18 to 25 at their edges: hours, stirs, heats, pairs, and when there is none. */
public final class ForetoldEdgesTest {
    private static final int MIN = Integer.MIN_VALUE, MAX = Integer.MAX_VALUE, NONE = Check.NONE;

    public static void main(String[] args) {
        swellZeroHoursOn();
        swellSixtyHoursOn();
        burstZeroToSixtyHoursOn();
        burstingZeroToSixty();
        firstOneToSixty();
        firstIsNotYetNow();
        firstOfSeveral();
        stirsForThirtyHours();
        stirsZeroToTwenty();
        stirsToSwellZero();
        stirsThatMakeSwell();
        stirsForTheBurst();
        offForThirtyHours();
        offNoneAndAll();
        offThatCannotHelp();
        offThoseThatAreOff();
        changeOfNotTwo();
        changeOfEachPair();
        changeOfSeveral();
        changeForThirtyHours();
        hottestZeroToNine();
        hottestForThirtyHours();
        hottestWhenAllAreBurst();
        Check.finish();
    }

    private static void swellZeroHoursOn() {
        PuddingHobs x = Check.hobOf("k9,5;p0,30;r0,0;");
        Check.dueAll("now", new int[] {x.swell(0, 0), x.swell(1, 0), x.burst(0)}, 30, 0, 0);
        Check.dueAll("an hour on", new int[] {x.swell(0, 1), x.swell(1, 1), x.burst(1)}, 39, 3, 1);
        x.stir(1);
        Check.due("a stir counts for the first hour alone", x.swell(1, 2), x.swell(1, 1));
        Check.dueAll("nothing has changed", new int[] {x.count(2), x.count(5), x.count(7), x.basin(0, 0)}, 0, 0, 2, 30);
    }

    private static void swellSixtyHoursOn() {
        PuddingHobs x = Check.hobOf("k1,60;p0,0;");
        for (int d = 0; d <= 60; d++) {
            Check.due("swell " + d, x.swell(0, d), d);
        }
        for (int d : new int[] {MIN, -1, 61, MAX}) {
            Check.due("swell " + d, x.swell(0, d), Check.BAD);
        }
    }

    private static void burstZeroToSixtyHoursOn() {
        PuddingHobs x = Check.hobOf("k1,59;p0,0;");
        for (int d = 0; d <= 60; d++) {
            Check.due("burst " + d, x.burst(d), d == 60 ? 1 : 0);
        }
        for (int d : new int[] {MIN, -1, 61, MAX}) {
            Check.due("burst " + d, x.burst(d), Check.BAD);
        }
        x = Check.hobOf("k0,5;p0,6;p0,6;p0,6;p0,6;p0,6;p0,6;p0,6;");
        Check.dueAll("all seven", new int[] {x.burst(0), x.burst(1), x.burst(60)}, 0, 127, 127);
    }

    private static void burstingZeroToSixty() {
        for (int cloth = 5; cloth <= 60; cloth++) {
            PuddingHobs x = Check.hobOf("k1," + cloth + ";p0,0;");
            Check.due("at cloth " + cloth, x.bursting(0), cloth == 60 ? NONE : cloth + 1);
        }
        PuddingHobs x = Check.hobOf("k0,5;p0,6;p0,0;");
        Check.due("above the cloth now", x.bursting(0), 1);
        Check.due("never", x.bursting(1), NONE);
        x.hours(1);
        Check.due("burst now", x.bursting(0), 0);
        x.hours(1);
        Check.due("burst before", x.bursting(0), 0);
        x.undo();
        x.undo();
        Check.due("undone", x.bursting(0), 1);
    }

    private static void firstOneToSixty() {
        for (int cloth = 5; cloth <= 60; cloth++) {
            PuddingHobs x = Check.hobOf("k1," + cloth + ";b0,0;p0,0;");
            x.swap(0, 1);
            Check.due("which at cloth " + cloth, x.first(0), cloth == 60 ? NONE : 1);
            Check.due("when at cloth " + cloth, x.first(1), cloth == 60 ? NONE : cloth + 1);
        }
        PuddingHobs x = Check.hobOf("k0,5;p0,6;");
        Check.dueAll("above the cloth now", new int[] {x.first(0), x.first(1)}, 0, 1);
    }

    private static void firstIsNotYetNow() {
        PuddingHobs x = Check.hobOf("k1,10;p0,8;b0,11;b0,0;");
        Check.dueAll("ahead", new int[] {x.first(0), x.first(1)}, 0, 1);
        x = Check.hobOf("k1,10;p0,3;b0,11;b0,0;");
        Check.dueAll("ahead", new int[] {x.first(0), x.first(1)}, 1, 1);
        x.hours(1);
        Check.dueAll("behind", new int[] {x.first(0), x.first(1)}, 0, 4);
        x.hours(4);
        Check.dueAll("no more", new int[] {x.first(0), x.first(1)}, NONE, NONE);
    }

    private static void firstOfSeveral() {
        PuddingHobs x = Check.hobOf("k0,10;p0,0;p0,11;p0,0;p0,0;p0,0;p0,11;p0,0;");
        Check.due("the least", x.first(0), 1);
        x.swap(1, 5);
        Check.due("not by places", x.first(0), 1);
        Check.due("all seven", Check.hobOf("k0,5;" + "p0,6;".repeat(7)).first(0), 0);
        x = Check.hobOf("k3,20;p0,15;l0,3;p0,20;");
        Check.dueAll("the hour is ahead of the number", new int[] {x.first(0), x.first(1)}, 2, 1);
    }

    private static void stirsForThirtyHours() {
        PuddingHobs x = Check.hobOf("k1,30;p0,1;");
        Check.dueAll("1, 29, 30 hours", new int[] {x.stirs(0, 1), x.stirs(0, 29), x.stirs(0, 30)}, 0, 0, 1);
        for (int n : new int[] {MIN, -1, 0, 31, MAX}) {
            Check.due("stirs " + n, x.stirs(0, n), Check.BAD);
        }
        Check.due("none is stirred by it", x.count(7), 0);
    }

    /** At swell 60, the cloth, each stir makes room for 2 of what the heat gives in all hours. */
    private static void stirsZeroToTwenty() {
        PuddingHobs x = Check.hobOf("k6,60;p0,30;");
        x.hours(5);
        int[][] wanted = {{0, 1, 0}, {1, 1, 1}, {2, 1, 1}, {1, 3, 2}, {4, 9, 18}, {1, 30, 15}, {5, 7, 18}, {4, 10, 20},
            {5, 8, 20}, {8, 5, 20}, {3, 13, 20}, {7, 6, NONE}, {6, 7, NONE}, {2, 21, NONE}, {9, 5, NONE}, {9, 30, NONE}};
        for (int[] w : wanted) {
            x.heat(w[0]);
            Check.due("heat " + w[0] + " for " + w[1], x.stirs(0, w[1]), w[2]);
        }
    }

    private static void stirsToSwellZero() {
        PuddingHobs x = Check.hobOf("k5,5;p0,3;");
        Check.dueAll("0 at least", new int[] {x.stirs(0, 1), x.stirs(0, 2)}, 2, NONE);
        x = Check.hobOf("k6,5;p0,0;");
        Check.due("of 0 nothing is taken", x.stirs(0, 1), NONE);
    }

    private static void stirsThatMakeSwell() {
        PuddingHobs x = Check.hobOf("k9,30;b0,30;");
        Check.due("left alone", x.stirs(0, 30), 0);
        x.stir(0);
        Check.due("stirred already", x.stirs(0, 1), 4);
        Check.due("a black one beside one that bursts", Check.hobOf("k9,30;p0,30;b0,29;").stirs(1, 1), 5);
        Check.due("one with brandy", Check.hobOf("k9,30;p0,30;r0,29;").stirs(1, 1), 9);
        x = Check.hobOf("k9,10;p0,10;");
        x.on(0, 0);
        Check.due("off", x.stirs(0, 30), 0);
    }

    private static void stirsForTheBurst() {
        PuddingHobs x = Check.hobOf("k0,5;p0,6;p0,0;");
        Check.due("above the cloth", x.stirs(0, 30), 1);
        x.hours(1);
        Check.dueAll("burst", new int[] {x.stirs(0, 1), x.stirs(0, 30)}, NONE, NONE);
        Check.due("the other one", x.stirs(1, 30), 0);
    }

    private static void offForThirtyHours() {
        PuddingHobs x = Check.hobOf("k1,29;p0,0;p0,0;");
        Check.dueAll("29 hours", new int[] {x.off(29, 0), x.off(29, 1)}, 0, 0);
        Check.dueAll("30 hours", new int[] {x.off(30, 0), x.off(30, 1)}, 1, 1);
        for (int n : new int[] {MIN, -1, 0, 31, MAX}) {
            Check.due("off " + n, x.off(n, 0), Check.BAD);
            Check.due("off " + n, x.off(n, 1), Check.BAD);
        }
    }

    private static void offNoneAndAll() {
        PuddingHobs x = Check.hobOf("k9,60;" + "p0,30;".repeat(7));
        Check.dueAll("none", new int[] {x.off(1, 0), x.off(1, 1)}, 0, 0);
        Check.dueAll("the hottest one", new int[] {x.off(4, 0), x.off(4, 1)}, 2, 0b11);
        Check.dueAll("all", new int[] {x.off(30, 0), x.off(30, 1)}, 7, 127);
        Check.due("all are on yet", x.count(6), 127);
        x = Check.hobOf("k9,30;b0,30;p0,30;l0,30;b0,30;r0,30;s0,30;");
        Check.dueAll("which", new int[] {x.off(1, 0), x.off(1, 1)}, 3, 0b100110);
    }

    private static void offThatCannotHelp() {
        PuddingHobs x = Check.hobOf("k0,5;p0,6;p0,0;");
        Check.dueAll("above the cloth", new int[] {x.off(1, 0), x.off(1, 1)}, NONE, NONE);
        x.hours(1);
        Check.dueAll("burst, and past", new int[] {x.off(30, 0), x.off(30, 1)}, 0, 0);
        x.heat(9);
        Check.dueAll("the other one", new int[] {x.off(30, 0), x.off(30, 1)}, 1, 0b10);
    }

    private static void offThoseThatAreOff() {
        PuddingHobs x = Check.hobOf("k9,10;p0,10;p0,10;p0,10;");
        Check.dueAll("all on", new int[] {x.off(1, 0), x.off(1, 1)}, 3, 0b111);
        x.on(0, 0);
        Check.dueAll("one is off", new int[] {x.off(1, 0), x.off(1, 1)}, 2, 0b110);
        x.on(1, 0);
        x.on(2, 0);
        Check.dueAll("all are off", new int[] {x.off(30, 0), x.off(30, 1)}, 0, 0);
    }

    private static void changeOfNotTwo() {
        PuddingHobs x = Check.hobOf("k9,10;p0,10;");
        Check.dueAll("one", new int[] {x.change(1, 0), x.change(1, 1), x.change(30, 0)}, NONE, NONE, NONE);
        Check.due("BAD is ahead", x.change(31, 0), Check.BAD);
        x = Check.hobOf("k9,10;p0,10;b0,0;");
        Check.dueAll("two", new int[] {x.change(1, 0), x.change(1, 1)}, 1, 1);
    }

    /** One that bursts wherever there is glow, in place 5; its cold place 6 is another's. */
    private static void changeOfEachPair() {
        PuddingHobs x = Check.hobOf("k6,10;b0,0;b0,0;b0,0;b0,0;b0,0;p0,10;b0,0;");
        Check.dueAll("5 and 6", new int[] {x.change(30, 0), x.change(30, 1)}, 56, 0);
        for (int a = 4; a >= 0; a--) {
            x.swap(a, 6);
            Check.dueAll(a + " and 5", new int[] {x.change(30, 0), x.change(30, 1)}, 10 * a + 5, 0);
            x.undo();
        }
        Check.dueAll("places", Check.ofEach(x, 2), 0, 1, 2, 3, 4, 5, 6);
    }

    private static void changeOfSeveral() {
        PuddingHobs x = Check.hobOf("k0,10;" + "p0,0;".repeat(7));
        Check.dueAll("none bursts by any", new int[] {x.change(30, 0), x.change(30, 1)}, 1, 0);
        x = Check.hobOf("k0,10;" + "p0,11;".repeat(7));
        Check.dueAll("all burst by all", new int[] {x.change(1, 0), x.change(1, 1)}, 1, 7);
        x.hours(1);
        Check.dueAll("all are burst", new int[] {x.change(30, 0), x.change(30, 1)}, 1, 7);
        x = Check.hobOf("k1,10;p0,10;b0,0;b0,0;");
        Check.dueAll("0 and 1, 0 and 2", new int[] {x.change(1, 0), x.change(1, 1)}, 1, 0);
    }

    private static void changeForThirtyHours() {
        PuddingHobs x = Check.hobOf("k2,29;p0,0;b0,0;b0,0;");
        Check.dueAll("29 hours", new int[] {x.change(29, 0), x.change(29, 1)}, 1, 0);
        Check.dueAll("30 hours", new int[] {x.change(30, 0), x.change(30, 1)}, 2, 0);
        for (int n : new int[] {MIN, -1, 0, 31, MAX}) {
            Check.due("change " + n, x.change(n, 0), Check.BAD);
            Check.due("change " + n, x.change(n, 1), Check.BAD);
        }
    }

    private static void hottestZeroToNine() {
        for (int swell = 0; swell <= 5; swell++) {
            PuddingHobs x = Check.hobOf("k9,9;p0," + (swell + 4) + ";");
            Check.due("of " + (swell + 4), x.hottest(1), 5 - swell);
            Check.due("the heat stays", x.count(3), 9);
        }
        Check.due("9 by one", Check.hobOf("k0,9;p0,0;").hottest(1), 9);
        Check.due("8 by one", Check.hobOf("k0,8;p0,0;").hottest(1), 8);
        Check.due("0", Check.hobOf("k9,5;p0,5;").hottest(30), 0);
        Check.due("none", Check.hobOf("k9,5;p0,6;").hottest(1), NONE);
        Check.due("none, though there is no heat", Check.hobOf("k0,5;p0,6;").hottest(30), NONE);
        Check.due("9 and no more", Check.hobOf("k0,60;b0,0;").hottest(30), 9);
    }

    private static void hottestForThirtyHours() {
        PuddingHobs x = Check.hobOf("k0,59;p0,30;");
        Check.dueAll("29, 30 hours", new int[] {x.hottest(29), x.hottest(30)}, 1, 0);
        for (int n : new int[] {MIN, -1, 0, 31, MAX}) {
            Check.due("hottest " + n, x.hottest(n), Check.BAD);
        }
    }

    private static void hottestWhenAllAreBurst() {
        PuddingHobs x = Check.hobOf("k0,5;p0,6;p0,5;");
        x.hours(1);
        Check.due("both", x.count(5), 3);
        Check.due("no more can", x.hottest(30), 9);
        x = Check.hobOf("k0,5;p0,5;");
        x.on(0, 0);
        Check.due("off", x.hottest(30), 9);
    }
}
