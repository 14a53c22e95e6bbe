/** Promises 6 to 8 at their edges: the tape full and empty, every byte and number in every place, each fault. */
public final class TapeEdgesTest {
    private static final String TEXT = "k5,20;p3,4;", SORTS = "pslbr";
    private static final String SEVEN_LONG = "r20,30;".repeat(7);

    public static void main(String[] args) {
        theTapeIsFull();
        theTapeIsEmptyThen();
        nothingIsReadBehindTheEnd();
        everyByteInEveryPlace();
        everyNumber();
        zeroAhead();
        runsOfThreeFigures();
        theEnd();
        aNumberAheadOfTheEnd();
        sevenBasins();
        anEighthBasin();
        theFirstTokenThatHasAFault();
        theLeastFaultOfAToken();
        theFarthestFault();
        theLatestFault();
        aFaultLeavesAll();
        aHobAtFirst();
        Check.finish();
    }

    private static void theTapeIsFull() {
        PuddingHobs x = new PuddingHobs();
        String text = "k9,60;" + SEVEN_LONG;
        for (int n = 1; n <= 90; n++) {
            Check.due("byte " + n, x.feed(n <= text.length() ? text.charAt(n - 1) : '1'), n);
            Check.due("count(9)", x.count(9), n);
        }
        for (int letter : new int[] {0, 'p', 255}) {
            Check.due("byte 91", x.feed(letter), Check.FULL);
            Check.due("count(9)", x.count(9), 90);
        }
        Check.due("it is read", x.hob(), -1000100 - 55);
        Check.due("fault()", x.fault(), 1);
        Check.due("count(9)", x.count(9), 0);
        Check.due("there is room again", x.feed('k'), 1);
    }

    private static void theTapeIsEmptyThen() {
        PuddingHobs x = new PuddingHobs();
        Check.due("an empty tape", x.hob(), -1000100);
        Check.due("fault()", x.fault(), 1);
        Check.due("a hob", Check.read(x, TEXT), 1);
        Check.due("behind a hob", x.count(9), 0);
        Check.due("it is not read twice", x.hob(), -1000100);
        Check.due("a fault", Check.read(x, "k5,20;p3,4;x"), -1000111);
        Check.due("behind a fault", x.count(9), 0);
        Check.due("nothing of it is left", Check.read(x, TEXT), 1);
    }

    /** What an earlier text left where a shorter one ends does not go on with it. */
    private static void nothingIsReadBehindTheEnd() {
        String[] earlier = {"k5,20;p3,45;", "k5,20;p3,4;p1,1;", "k5,20;p3,4000000"};
        for (String text : earlier) {
            PuddingHobs x = new PuddingHobs();
            Check.read(x, text);
            Check.due("a number at the end, behind " + text, Check.read(x, "k5,20;p3,4"), -1000110);
            Check.due("fault()", x.fault(), 1);
            Check.read(x, text);
            Check.due("a sign at the end, behind " + text, Check.read(x, TEXT), 1);
            Check.read(x, text);
            Check.due("nothing, behind " + text, x.hob(), -1000100);
        }
    }

    /** In each place of the text every byte there is; a figure more may make a number too great, or a run of three. */
    private static void everyByteInEveryPlace() {
        for (int letter = 0; letter <= 255; letter++) {
            boolean figure = letter >= '0' && letter <= '9';
            inPlace(0, letter, letter == 'k', 0, 1);
            inPlace(1, letter, figure, 1, 1);
            inPlace(2, letter, letter == ',', figure ? 1 : 2, 1);
            inPlace(3, letter, figure && letter >= '1' && letter <= '6', 3, figure ? 2 : 1);
            inPlace(4, letter, figure, 3, 2);
            inPlace(5, letter, letter == ';', figure ? 3 : 5, 1);
            inPlace(6, letter, SORTS.indexOf(letter) >= 0, 6, 1);
            inPlace(7, letter, figure, 7, 1);
            inPlace(8, letter, letter == ',', figure ? 7 : 8, 1);
            inPlace(9, letter, figure, 9, 1);
            inPlace(10, letter, letter == ';', figure ? 9 : 10, figure ? 2 : 1);
            inPlace(11, letter, false, SORTS.indexOf(letter) >= 0 ? 12 : 11, 1);
        }
    }

    private static void inPlace(int place, int letter, boolean fine, int faultPlace, int number) {
        StringBuilder text = new StringBuilder(TEXT).append(place == TEXT.length() ? "p" : "");
        text.setCharAt(place, (char) letter);
        dueRead(text.toString(), fine ? 1 : -1000100 - faultPlace, fine ? 0 : number);
    }

    private static void everyNumber() {
        for (int n = 0; n <= 99; n++) {
            number("k", n, ",20;p3,4;", 0, 9);
            number("k5,", n, ";p3,4;", 5, 60);
            number("k5,20;p", n, ",4;", 0, 20);
            number("k5,20;p3,", n, ";", 0, 30);
        }
    }

    private static void number(String ahead, int n, String behind, int least, int most) {
        boolean fine = n >= least && n <= most;
        PuddingHobs x = dueRead(ahead + n + behind, fine ? 1 : -1000100 - ahead.length(), fine ? 0 : 2);
        if (fine) {
            int[] told = {x.count(3), x.count(4), x.basin(0, 1), x.basin(0, 0)};
            int[] want = {5, 20, 3, 4};
            want[ahead.length() == 1 ? 0 : ahead.length() == 3 ? 1 : ahead.length() == 7 ? 2 : 3] = n;
            Check.dueAll("read " + ahead + n, told, want);
        }
    }

    private static void zeroAhead() {
        PuddingHobs x = dueRead("k09,05;p07,08;r00,00;", 2, 0);
        Check.dueAll("law", new int[] {x.count(3), x.count(4)}, 9, 5);
        Check.dueAll("plums", Check.ofEach(x, 1), 7, 0);
        Check.dueAll("swells", Check.swells(x), 8, 0);
        dueRead("k0,04;p0,0;", -1000103, 2);
        dueRead("k0,00;p0,0;", -1000103, 2);
    }

    private static void runsOfThreeFigures() {
        String[] runs = {"000", "005", "009", "010", "020", "100", "999", "0000", "1234", "0".repeat(60)};
        for (String run : runs) {
            dueRead("k" + run + ",20;p3,4;", -1000101, 1);
            dueRead("k5," + run + ";p3,4;", -1000103, 1);
            dueRead("k5,20;p" + run + ",4;", -1000107, 1);
            dueRead("k5,20;p3," + run + ";", -1000109, 1);
            dueRead("k5,20;p3," + run, -1000109, 1);
            dueRead(run, -1000100, 1);
            dueRead("k5,20;" + run, -1000106, 1);
            dueRead("k5,20;p3,4;" + run, -1000111, 1);
        }
    }

    /** A text that stops short has its fault where the tape ends. */
    private static void theEnd() {
        String text = "k9,60;r20,30;s0,0;";
        for (int n = 0; n < text.length(); n++) {
            dueRead(text.substring(0, n), n == 13 ? 1 : -1000100 - n, n == 13 ? 0 : 1);
        }
        dueRead(text, 2, 0);
    }

    private static void aNumberAheadOfTheEnd() {
        dueRead("k10", -1000101, 2);
        dueRead("k1,1", -1000103, 2);
        dueRead("k1,61", -1000103, 2);
        dueRead("k1,60;p21", -1000107, 2);
        dueRead("k1,60;p1,31", -1000109, 2);
        dueRead("k100", -1000101, 1);
    }

    private static void sevenBasins() {
        for (int n = 1; n <= 7; n++) {
            PuddingHobs x = dueRead("k9,60;" + "r20,30;".repeat(n), n, 0);
            Check.due("basins", x.count(1), n);
            Check.due("all on", x.count(6), (1 << n) - 1);
            Check.due("the last one's place", x.basin(n - 1, 2), n - 1);
            Check.due("who is there", x.place(n - 1), n - 1);
            Check.due("none behind it", x.place(n), Check.BAD);
        }
    }

    private static void anEighthBasin() {
        for (char sort : SORTS.toCharArray()) {
            dueRead("k9,60;" + SEVEN_LONG + sort, -1000155, 3);
            dueRead("k9,60;" + SEVEN_LONG + sort + "1,1;", -1000155, 3);
            dueRead("k9,60;" + SEVEN_LONG + sort + "21,31;", -1000155, 3);
            dueRead("k9,60;" + SEVEN_LONG + sort + "000", -1000155, 3);
            dueRead("k9,60;" + SEVEN_LONG + sort + "1,1;" + sort + "1,1;", -1000155, 3);
        }
    }

    private static void theFirstTokenThatHasAFault() {
        dueRead("k10,4;p21,31;x", -1000101, 2);
        dueRead("k9,4;p21,31;x", -1000103, 2);
        dueRead("k9,5;p21,31;x", -1000106, 2);
        dueRead("k9,5;p20,31;x", -1000109, 2);
        dueRead("k9,5;p20,30;x", -1000112, 1);
        dueRead("k9,60;" + "r20,30;".repeat(6) + "r21,30;p1,1;", -1000149, 2);
        dueRead("k9,60;" + "r20,30;".repeat(6) + "r20,300;p1,1;", -1000152, 1);
        dueRead("x10", -1000100, 1);
    }

    private static void theLeastFaultOfAToken() {
        dueRead("k999,20;p3,4;", -1000101, 1);
        dueRead("k9,60;" + SEVEN_LONG + "k", -1000155, 1);
        dueRead("k9,60;" + SEVEN_LONG + "a", -1000155, 1);
        dueRead("k9,60;" + SEVEN_LONG + "99", -1000155, 1);
        dueRead("k9,60;" + SEVEN_LONG + ";", -1000155, 1);
        dueRead("k9,60;" + SEVEN_LONG + " ", -1000155, 1);
        dueRead("k5,20;99", -1000106, 1);
    }

    private static void theFarthestFault() {
        String longest = "k09,60;" + SEVEN_LONG;
        Check.due("the longest text", longest.length(), 56);
        dueRead(longest, 7, 0);
        dueRead(longest + "s", -1000156, 3);
        dueRead(longest + "1", -1000156, 1);
        dueRead(longest.substring(0, 55), -1000155, 1);
    }

    private static void theLatestFault() {
        PuddingHobs x = new PuddingHobs();
        Check.due("0 before one", x.fault(), 0);
        Check.read(x, TEXT);
        Check.due("0 behind a hob", x.fault(), 0);
        Check.read(x, "k9,60;" + SEVEN_LONG + "p");
        Check.due("3", x.fault(), 3);
        Check.read(x, TEXT);
        Check.due("3 behind a hob", x.fault(), 3);
        Check.read(x, "k10,20;");
        Check.due("2", x.fault(), 2);
        x.feed(-1);
        x.feed('k');
        x.hours(0);
        Check.due("2 behind other calls", x.fault(), 2);
        x.hob();
        Check.due("1", x.fault(), 1);
    }

    private static void aFaultLeavesAll() {
        String[] faults = {"", "k", "k10,", "k5,20;p1,1;p21,", "k9,60;" + SEVEN_LONG + "p"};
        for (String text : faults) {
            PuddingHobs x = Check.hobOf("k3,20;p5,19;s8,4;l3,21;b9,6;r1,10;");
            x.image(0);
            x.hours(1);
            x.stir(3);
            x.on(1, 0);
            x.swap(0, 4);
            x.ask(1, 0);
            x.as(0, 5);
            Check.due("a fault", Check.read(x, text) <= -1000100);
            Check.dueAll("counts", Check.counts(x), 0, 5, 1, 3, 20, 0b00101, 0b11101, 0b01000, 4, 0);
            Check.dueAll("swells", Check.swells(x), 22, 14, 21, 7, 10);
            Check.dueAll("plums", Check.ofEach(x, 1), 5, 8, 3, 9, 1);
            Check.dueAll("places", Check.ofEach(x, 2), 4, 1, 2, 3, 0);
            Check.dueAll("trace", Check.traces(x), 12, 11, 10, 24, 21, 20);
            Check.due("status()", x.status(), 3);
            Check.due("acts can be undone", x.undo(), 3);
            Check.due("the image is kept", x.restore(0), 1);
            Check.due("HOUR", x.count(2), 0);
        }
    }

    /** HOUR 0, none burst whatever swell is, none stirred, all on, no act can be undone. */
    private static void aHobAtFirst() {
        PuddingHobs x = Check.hobOf("k9,5;p1,30;b3,4;p0,0;");
        x.stir(1);
        x.swap(0, 2);
        x.hours(3);
        x.on(0, 0);
        x.on(1, 0);
        Check.due("all burst", x.count(5), 7);
        Check.due("the same hob again", Check.read(x, "k9,5;p1,30;b3,4;p0,0;"), 3);
        Check.dueAll("counts", Check.counts(x), 0, 3, 0, 9, 5, 0, 7, 0, 0, 0);
        Check.dueAll("swells", Check.swells(x), 30, 4, 0);
        Check.dueAll("places", Check.ofEach(x, 2), 0, 1, 2);
        Check.due("no act can be undone", x.undo(), Check.STATE);
        x.stir(1);
        Check.due("another hob", Check.read(x, "k1,6;l1,30;"), 1);
        Check.dueAll("counts", Check.counts(x), 0, 1, 0, 1, 6, 0, 1, 0, 0, 0);
        Check.due("it bursts in its first hour", x.hours(1), 1);
    }

    private static PuddingHobs dueRead(String text, int answer, int fault) {
        PuddingHobs x = new PuddingHobs();
        Check.due("hob of " + text, Check.read(x, text), answer);
        Check.due("fault of " + text, x.fault(), fault);
        Check.due("basins of " + text, x.count(1), Math.max(0, answer));
        Check.due("bytes behind " + text, x.count(9), 0);
        return x;
    }
}
