/** Promises 30 and 31: images of a hob, and the hob as they kept it. */
public final class ImagesTest {
    public static void main(String[] args) {
        asItWasKept();
        twoImages();
        refused();
        Check.finish();
    }

    private static void asItWasKept() {
        PuddingHobs x = Check.hobOf("k4,20;b3,17;p1,20;l7,3;");
        x.hours(2);
        x.stir(0);
        x.on(2, 0);
        x.swap(0, 2);
        x.plums(0, 2);
        x.heat(7);
        int acts = x.count(8);
        int[] counts = Check.counts(x);
        int[] swells = Check.swells(x);
        int[] plums = Check.ofEach(x, 1);
        Check.due("image(1)", x.image(1), 1);
        Check.due("an image is no act", x.count(8), acts);
        x.hours(9);
        x.swap(1, 2);
        Check.due("another hob", Check.read(x, "k1,9;r1,1;"), 1);
        Check.due("restore(1)", x.restore(1), 1);
        counts[8] = 0;
        Check.dueAll("counts", Check.counts(x), counts);
        Check.dueAll("swells", Check.swells(x), swells);
        Check.dueAll("plums", Check.ofEach(x, 1), plums);
        Check.dueAll("places", Check.ofEach(x, 2), 2, 1, 0);
        Check.dueAll("kinds", new int[] {x.kind(0), x.kind(1), x.kind(2)}, 4, 1, 3);
        Check.due("no act can be undone", x.undo(), Check.STATE);
        x.hours(1);
        Check.due("again", x.restore(1), 1);
        Check.due("the act behind it cannot be undone", x.undo(), Check.STATE);
        Check.dueAll("swells", Check.swells(x), swells);
    }

    private static void twoImages() {
        PuddingHobs x = Check.hobOf("k1,60;p0,0;");
        x.image(0);
        x.hours(5);
        x.image(1);
        x.hours(5);
        x.restore(0);
        Check.due("HOUR of 0", x.count(2), 0);
        x.restore(1);
        Check.due("HOUR of 1", x.count(2), 5);
        x.image(0);
        x.hours(1);
        x.restore(0);
        Check.due("an image in place of the one before", x.basin(0, 0), 5);
    }

    private static void refused() {
        PuddingHobs x = new PuddingHobs();
        Check.due("no hob", x.image(0), Check.STATE);
        Check.due("BAD ahead of STATE", x.image(-1), Check.BAD);
        Check.read(x, "k1,60;p0,0;");
        x.hours(2);
        Check.due("image(2)", x.image(2), Check.BAD);
        Check.due("restore(2)", x.restore(2), Check.BAD);
        Check.due("restore(-1)", x.restore(-1), Check.BAD);
        x.image(1);
        Check.due("none was kept", x.restore(0), Check.STATE);
        Check.due("acts stay", x.count(8), 2);
    }
}
