/** Promises 9 to 17: hours, acts, undo, and what is seen of a basin. */
public final class ActsTest {
    private static final String FIVE = "k9,60;p4,0;s11,1;l0,2;b1,3;r2,4;";

    public static void main(String[] args) {
        growth();
        rounds();
        roundsGoByPlaces();
        hours();
        hourLimit();
        stir();
        onAndOff();
        swap();
        plums();
        heat();
        undoOfEach();
        undoOfMany();
        basin();
        place();
        Check.finish();
    }

    private static void growth() {
        PuddingHobs x = Check.hobOf(FIVE);
        Check.dueAll("glow", Check.ofEach(x, 5), 9, 8, 7, 6, 5);
        Check.dueAll("growth", Check.ofEach(x, 6), 9, 10, 3, 0, 0);
        x.stir(3);
        x.stir(4);
        Check.dueAll("growth of stirred ones", Check.ofEach(x, 6), 9, 10, 3, 6, 10);
        Check.due("hours(1)", x.hours(1), 0);
        Check.dueAll("swells", Check.swells(x), 9, 11, 5, 7, 12);
        Check.due("none is stirred any more", x.count(7), 0);
        Check.due("hours(1)", x.hours(1), 0);
        Check.dueAll("swells", Check.swells(x), 18, 21, 8, 7, 12);
        x.heat(1);
        Check.dueAll("glow at heat 1", Check.ofEach(x, 5), 1, 0, 0, 0, 0);
        Check.dueAll("growth at heat 1", Check.ofEach(x, 6), 1, 0, 0, 0, 0);
        x.hours(1);
        Check.dueAll("swells at heat 1", Check.swells(x), 19, 21, 8, 7, 12);
    }

    private static void rounds() {
        PuddingHobs x = Check.hobOf("k0,10;p0,7;p0,8;p0,11;p0,10;p0,5;");
        Check.due("one by one", x.hours(1), 0b01110);
        Check.dueAll("swells", Check.swells(x), 10, 11, 11, 13, 8);
        Check.due("behind it", x.hours(1), 0b01110);
        Check.dueAll("swells behind it", Check.swells(x), 10, 11, 11, 13, 8);
        x = Check.hobOf("k0,10;p0,11;p0,4;p0,11;");
        Check.due("two beside one", x.hours(1), 0b101);
        Check.dueAll("swells", Check.swells(x), 11, 10, 11);
        x = Check.hobOf("k0,10;p0,11;p0,5;p0,11;");
        Check.due("two beside one burst it", x.hours(1), 0b111);
        x = Check.hobOf("k0,10;p0,11;p0,9;p0,9;p0,9;p0,9;p0,9;p0,9;");
        Check.due("seven, one by one", x.hours(1), 127);
        x = Check.hobOf("k0,10;p0,10;");
        Check.due("as much as the cloth", x.hours(24), 0);
    }

    private static void roundsGoByPlaces() {
        PuddingHobs x = Check.hobOf("k0,10;p0,11;p0,0;p0,0;p0,0;");
        x.swap(1, 3);
        x.hours(1);
        Check.dueAll("beside place 0 is basin 3", Check.swells(x), 11, 0, 0, 3);
        x = Check.hobOf("k0,10;p0,11;p0,9;");
        x.on(1, 0);
        Check.due("one that is off bursts, too", x.hours(1), 3);
    }

    private static void hours() {
        PuddingHobs x = Check.hobOf("k2,5;p0,0;l0,0;");
        Check.due("hours(0)", x.hours(0), Check.BAD);
        Check.due("hours(25)", x.hours(25), Check.BAD);
        Check.due("hours(-1)", x.hours(-1), Check.BAD);
        Check.due("hours(2)", x.hours(2), 0);
        Check.due("acts", x.count(8), 2);
        Check.due("hours(1)", x.hours(1), 1);
        Check.dueAll("swells", Check.swells(x), 6, 3);
        Check.due("hours(24)", x.hours(24), 1);
        Check.dueAll("swells", Check.swells(x), 6, 3);
        Check.due("HOUR", x.count(2), 27);
        Check.due("acts", x.count(8), 24);
    }

    private static void hourLimit() {
        PuddingHobs x = Check.hobOf("k0,5;p0,0;");
        for (int call = 0; call < 416; call++) {
            x.hours(24);
        }
        Check.due("HOUR", x.count(2), 9984);
        Check.due("hours(16)", x.hours(16), Check.FULL);
        Check.due("BAD ahead of FULL", x.hours(25), Check.BAD);
        Check.due("hours(15)", x.hours(15), 0);
        Check.due("HOUR", x.count(2), 9999);
        Check.due("hours(1)", x.hours(1), Check.FULL);
        Check.due("foretold beyond it", x.swell(0, 60), 0);
        Check.due("undo()", x.undo(), 23);
        Check.due("hours(2)", x.hours(2), Check.FULL);
        Check.due("hours(1)", x.hours(1), 0);
    }

    private static void stir() {
        PuddingHobs x = Check.hobOf("k0,10;p0,5;b0,11;");
        Check.due("stir(0)", x.stir(0), 3);
        Check.due("stirred", x.count(7), 1);
        Check.due("stir(0)", x.stir(0), 1);
        Check.due("stir(0)", x.stir(0), 0);
        Check.due("stir(0)", x.stir(0), 0);
        Check.due("acts", x.count(8), 4);
        x.hours(1);
        Check.due("burst", x.stir(1), Check.STATE);
        Check.due("stir(2)", x.stir(2), Check.BAD);
        Check.due("stir(-1)", x.stir(-1), Check.BAD);
        Check.due("acts", x.count(8), 5);
    }

    private static void onAndOff() {
        PuddingHobs x = Check.hobOf("k9,5;p0,6;p0,0;p0,0;");
        Check.due("on it is", x.on(2, 1), Check.STATE);
        Check.due("off", x.on(2, 0), 0b011);
        Check.due("off it is", x.on(2, 0), Check.STATE);
        Check.due("glow off", x.basin(2, 5), 0);
        Check.due("growth off", x.basin(2, 6), 0);
        Check.dueAll("on", Check.ofEach(x, 3), 1, 1, 0);
        Check.dueAll("burst", Check.ofEach(x, 4), 0, 0, 0);
        Check.due("on", x.on(2, 1), 0b111);
        Check.due("on 2", x.on(0, 2), Check.BAD);
        Check.due("on -1", x.on(0, -1), Check.BAD);
        Check.due("basin 3", x.on(3, 0), Check.BAD);
        Check.due("basin -1", x.on(-1, 0), Check.BAD);
        x.hours(1);
        Check.due("a burst one can be taken off", x.on(0, 0), 0b110);
        Check.due("acts", x.count(8), 4);
    }

    private static void swap() {
        PuddingHobs x = Check.hobOf(FIVE);
        Check.due("swap(0, 4)", x.swap(0, 4), 4);
        Check.due("swap(4, 2)", x.swap(4, 2), 2);
        Check.dueAll("places", Check.ofEach(x, 2), 4, 1, 0, 3, 2);
        Check.dueAll("glow", Check.ofEach(x, 5), 5, 8, 9, 6, 7);
        Check.due("alike", x.swap(1, 1), Check.BAD);
        Check.due("basin 5", x.swap(1, 5), Check.BAD);
        Check.due("basin -1", x.swap(-1, 1), Check.BAD);
        Check.due("acts", x.count(8), 2);
    }

    private static void plums() {
        PuddingHobs x = Check.hobOf("k0,5;s3,0;p0,6;");
        Check.due("plums(0, 1)", x.plums(0, 1), 4);
        Check.due("plums(0, 20)", x.plums(0, 20), 20);
        Check.due("full of plums", x.plums(0, 1), 20);
        Check.due("acts", x.count(8), 3);
        Check.due("plums(0, 0)", x.plums(0, 0), Check.BAD);
        Check.due("plums(0, 21)", x.plums(0, 21), Check.BAD);
        Check.due("greatest", x.plums(0, Integer.MAX_VALUE), Check.BAD);
        Check.due("basin 2", x.plums(2, 1), Check.BAD);
        x.hours(1);
        Check.due("burst", x.plums(1, 1), Check.STATE);
        Check.due("BAD ahead of STATE", x.plums(1, 21), Check.BAD);
        x.heat(2);
        Check.due("growth by plums", x.basin(0, 6), 7);
    }

    private static void heat() {
        PuddingHobs x = Check.hobOf("k3,9;p0,0;");
        Check.due("heat(9)", x.heat(9), 3);
        Check.due("heat(0)", x.heat(0), 9);
        Check.due("heat(0)", x.heat(0), 0);
        Check.due("heat(10)", x.heat(10), Check.BAD);
        Check.due("heat(-1)", x.heat(-1), Check.BAD);
        Check.due("count(3)", x.count(3), 0);
        Check.due("acts", x.count(8), 3);
    }

    private static void undoOfEach() {
        PuddingHobs x = Check.hobOf("k4,20;b3,17;p1,20;");
        x.stir(0);
        x.on(1, 0);
        x.swap(0, 1);
        x.plums(0, 7);
        x.heat(9);
        Check.due("hours(1)", x.hours(1), 3);
        Check.due("undo the hour", x.undo(), 5);
        Check.dueAll("counts", Check.counts(x), 0, 2, 0, 9, 20, 0, 1, 1, 5, 0);
        Check.dueAll("swells", Check.swells(x), 15, 20);
        Check.due("undo heat", x.undo(), 4);
        Check.due("heat", x.count(3), 4);
        Check.due("undo plums", x.undo(), 3);
        Check.due("plums", x.basin(0, 1), 3);
        Check.due("undo swap", x.undo(), 2);
        Check.dueAll("places", Check.ofEach(x, 2), 0, 1);
        Check.due("undo off", x.undo(), 1);
        Check.due("on", x.count(6), 3);
        Check.due("undo stir", x.undo(), 0);
        Check.due("stirred", x.count(7), 0);
        Check.due("swell", x.basin(0, 0), 17);
        Check.due("no more", x.undo(), Check.STATE);
    }

    private static void undoOfMany() {
        PuddingHobs x = Check.hobOf("k1,60;p0,0;");
        x.hours(24);
        x.hours(6);
        Check.due("24 are kept", x.count(8), 24);
        for (int left = 23; left >= 0; left--) {
            Check.due("undo()", x.undo(), left);
            Check.due("HOUR", x.count(2), 6 + left);
            Check.due("swell", x.basin(0, 0), 6 + left);
        }
        Check.due("the oldest are forgotten", x.undo(), Check.STATE);
        x.heat(5);
        Check.due("an act behind undos", x.undo(), 0);
        Check.due("HOUR", x.count(2), 6);
    }

    private static void basin() {
        PuddingHobs x = Check.hobOf("k9,10;r5,6;p2,11;");
        x.stir(0);
        x.hours(1);
        Check.dueAll("burst", Check.ofEach(x, 4), 1, 1);
        Check.dueAll("glow of burst ones", Check.ofEach(x, 5), 9, 8);
        Check.dueAll("growth of burst ones", Check.ofEach(x, 6), 0, 0);
        Check.dueAll("swells", Check.swells(x), 22, 19);
        Check.due("what 7", x.basin(0, 7), Check.BAD);
        Check.due("what -1", x.basin(0, -1), Check.BAD);
        Check.due("basin 2", x.basin(2, 0), Check.BAD);
        Check.due("basin -1", x.basin(-1, 0), Check.BAD);
    }

    private static void place() {
        PuddingHobs x = Check.hobOf(FIVE);
        x.swap(0, 4);
        x.swap(1, 4);
        int[] there = {x.place(0), x.place(1), x.place(2), x.place(3), x.place(4)};
        Check.dueAll("basins by place", there, 1, 4, 2, 3, 0);
        Check.due("place 5", x.place(5), Check.BAD);
        Check.due("place -1", x.place(-1), Check.BAD);
    }
}
