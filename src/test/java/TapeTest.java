/** Promises 6 to 8: the tape, hobs from texts, faults. */
public final class TapeTest {
    private static final String SEVEN = "p0,0;s1,1;l2,2;b3,3;r4,4;p5,5;s6,6;";

    public static void main(String[] args) {
        feed();
        hobs();
        faults();
        faultsOfRoom();
        allStaysAtAFault();
        aHobInPlaceOfAnother();
        Check.finish();
    }

    private static void feed() {
        PuddingHobs x = new PuddingHobs();
        Check.due("feed(-1)", x.feed(-1), Check.BAD);
        Check.due("feed(256)", x.feed(256), Check.BAD);
        Check.due("feed(0)", x.feed(0), 1);
        Check.due("feed(255)", x.feed(255), 2);
        for (int n = 3; n <= 90; n++) {
            Check.due("feed 120", x.feed(120), n);
        }
        Check.due("byte 91", x.feed(120), Check.FULL);
        Check.due("BAD ahead of FULL", x.feed(256), Check.BAD);
        Check.due("count(9)", x.count(9), 90);
        Check.due("hob()", x.hob(), -1000100);
        Check.due("count(9)", x.count(9), 0);
        Check.due("feed(1)", x.feed(1), 1);
    }

    private static void hobs() {
        Check.due("least", read("k0,5;p0,0;"), 1);
        Check.due("most", read("k9,60;r20,30;"), 1);
        Check.due("figures with 0 ahead", read("k09,05;p00,07;"), 1);
        Check.due("seven", read("k5,20;" + SEVEN), 7);
        PuddingHobs x = Check.hobOf("k5,20;" + SEVEN);
        Check.dueAll("counts", Check.counts(x), 0, 7, 0, 5, 20, 0, 127, 0, 0, 0);
        Check.dueAll("swell", Check.swells(x), 0, 1, 2, 3, 4, 5, 6);
        Check.dueAll("plums", Check.ofEach(x, 1), 0, 1, 2, 3, 4, 5, 6);
        Check.dueAll("places", Check.ofEach(x, 2), 0, 1, 2, 3, 4, 5, 6);
        Check.dueAll("on", Check.ofEach(x, 3), 1, 1, 1, 1, 1, 1, 1);
        for (int b = 0; b < 7; b++) {
            Check.due("kind", x.kind(b), new int[] {1, 2, 3, 4, 5, 1, 2}[b]);
        }
        Check.due("burst whatever swell is", Check.hobOf("k9,5;p0,30;").count(5), 0);
    }

    private static void faults() {
        fault("", 0, 1);
        fault("x", 0, 1);
        fault("p1,1;", 0, 1);
        fault("5", 0, 1);
        fault("k", 1, 1);
        fault("kk", 1, 1);
        fault("k,", 1, 1);
        fault("k10,9;p1,1;", 1, 2);
        fault("k10", 1, 2);
        fault("k100,9;p1,1;", 1, 1);
        fault("k000,9;p1,1;", 1, 1);
        fault("k1000,9;p1,1;", 1, 1);
        fault("k1", 2, 1);
        fault("k1;", 2, 1);
        fault("k1 ,9;", 2, 1);
        fault(" k1,9;", 0, 1);
        fault("k1,4;p1,1;", 3, 2);
        fault("k1,61;p1,1;", 3, 2);
        fault("k1,060;p1,1;", 3, 1);
        fault("k1,5", 4, 1);
        fault("k1,60,", 5, 1);
        fault("k1,60;", 6, 1);
        fault("k1,60;k", 6, 1);
        fault("k1,60;P1,1;", 6, 1);
        fault("k1,60;1,1;", 6, 1);
        fault("k1,60;;", 6, 1);
        fault("k1,60;p21,1;", 7, 2);
        fault("k1,60;p200,1;", 7, 1);
        fault("k1,60;pp", 7, 1);
        fault("k1,60;p20;", 9, 1);
        fault("k1,60;p20,31;", 10, 2);
        fault("k1,60;p20,300;", 10, 1);
        fault("k1,60;p20,30", 12, 1);
        fault("k1,60;p20,30,", 12, 1);
        fault("k1,60;p20,30;z", 13, 1);
        fault("k1,60;p20,30;p", 14, 1);
        fault("k1,60;p20,30;" + (char) 0, 13, 1);
        fault("k1,60;p20,30;" + (char) 240, 13, 1);
        fault("k10,4;p21,31;x", 1, 2);
    }

    private static void faultsOfRoom() {
        fault("k5,20;" + SEVEN + "p1,1;", 41, 3);
        fault("k5,20;" + SEVEN + "r", 41, 3);
        fault("k5,20;" + SEVEN + "x", 41, 1);
        fault("k5,20;" + SEVEN + "k", 41, 1);
        fault("k5,20;" + SEVEN + "7", 41, 1);
        fault("k5,20;" + SEVEN + ",", 41, 1);
    }

    private static void allStaysAtAFault() {
        PuddingHobs x = Check.hobOf("k5,20;p1,2;l3,4;");
        x.stir(1);
        x.hours(1);
        int[] before = Check.counts(x);
        int[] swells = Check.swells(x);
        Check.due("a fault", Check.read(x, "k5,20;p1,2;l3,4"), -1000115);
        Check.dueAll("counts", Check.counts(x), before);
        Check.dueAll("swells", Check.swells(x), swells);
        Check.due("fault()", x.fault(), 1);
        Check.due("another", Check.read(x, "k5,4;"), -1000103);
        Check.due("fault()", x.fault(), 2);
        Check.due("a hob", Check.read(x, "k5,5;r1,1;"), 1);
        Check.due("the latest fault stays", x.fault(), 2);
    }

    private static void aHobInPlaceOfAnother() {
        PuddingHobs x = Check.hobOf("k9,5;p1,30;b3,4;p0,0;");
        x.stir(1);
        x.swap(0, 1);
        x.on(2, 0);
        x.hours(3);
        x.stir(2);
        Check.due("burst", x.count(5) != 0);
        Check.due("hob", Check.read(x, "k3,7;s2,1;l4,6;"), 2);
        Check.dueAll("counts", Check.counts(x), 0, 2, 0, 3, 7, 0, 3, 0, 0, 0);
        Check.dueAll("places", Check.ofEach(x, 2), 0, 1);
        Check.due("basin 2", x.kind(2), Check.BAD);
        Check.due("undo()", x.undo(), Check.STATE);
    }

    private static int read(String text) {
        return Check.read(new PuddingHobs(), text);
    }

    private static void fault(String text, int place, int number) {
        PuddingHobs x = new PuddingHobs();
        Check.due("hob of " + text, Check.read(x, text), -1000100 - place);
        Check.due("fault of " + text, x.fault(), number);
        Check.due("tape behind " + text, x.count(9), 0);
        Check.due("basins behind " + text, x.count(1), 0);
    }
}
