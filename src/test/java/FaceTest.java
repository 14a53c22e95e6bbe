import java.lang.reflect.Field;
import java.lang.reflect.Method;
import java.lang.reflect.Modifier;
import java.util.Map;
import java.util.TreeMap;

/** Promise 1 and the public face: every member of the document, and none beside it. */
public final class FaceTest {
    private static final String[] FACE = {"row/3", "set/3", "copy/5", "drop/1", "feed/1", "hob/0", "fault/0", "hours/1",
        "stir/1", "on/2", "swap/2", "plums/2", "heat/1", "undo/0", "basin/2", "place/1", "swell/2", "burst/1",
        "bursting/1", "first/1", "stirs/2", "off/2", "change/2", "hottest/1", "slices/2", "fits/5", "mice/4", "drawn/3",
        "image/1", "restore/1", "kind/1", "as/2", "ask/2", "trace/1", "count/1", "status/0"};

    public static void main(String[] args) {
        methods();
        fields();
        aNewObject();
        Check.due("constructors", PuddingHobs.class.getDeclaredConstructors().length, 1);
        Check.due("class", Modifier.isFinal(PuddingHobs.class.getModifiers()) && Modifier.isPublic(PuddingHobs.class.getModifiers()));
        Check.finish();
    }

    private static void methods() {
        Map<String, Method> all = Check.methodsOf(PuddingHobs.class);
        for (String entry : FACE) {
            String[] parts = entry.split("/");
            Method m = all.remove(parts[0]);
            boolean fits = m != null && m.getReturnType() == int.class && !Modifier.isStatic(m.getModifiers())
                && m.getParameterCount() == Integer.parseInt(parts[1]);
            Check.due("method " + entry, fits);
        }
        Check.due("methods beside the face " + all.keySet(), all.isEmpty());
        Map<String, Method> faced = Check.methodsOf(PuddingHobs.class);
        for (Method m : PuddingHobs.class.getDeclaredMethods()) {
            boolean isOwn = Modifier.isPrivate(m.getModifiers()) && !faced.containsKey(m.getName());
            Check.due("method " + m, Modifier.isPublic(m.getModifiers()) || isOwn || m.isSynthetic());
        }
    }

    private static void fields() {
        Map<String, Integer> constants = new TreeMap<>(Map.of("NONE", -1000000, "BAD", -1000001, "STATE", -1000002, "FULL", -1000003));
        for (Field f : PuddingHobs.class.getDeclaredFields()) {
            boolean isConstant = Modifier.isPublic(f.getModifiers()) && Modifier.isStatic(f.getModifiers())
                && Modifier.isFinal(f.getModifiers()) && f.getType() == int.class && constants.containsKey(f.getName());
            Check.due("field " + f.getName(), isConstant || Modifier.isPrivate(f.getModifiers()));
        }
        Check.due("NONE", PuddingHobs.NONE, constants.get("NONE"));
        Check.due("BAD", PuddingHobs.BAD, constants.get("BAD"));
        Check.due("STATE", PuddingHobs.STATE, constants.get("STATE"));
        Check.due("FULL", PuddingHobs.FULL, constants.get("FULL"));
    }

    private static void aNewObject() {
        PuddingHobs x = new PuddingHobs();
        Check.dueAll("counts", Check.counts(x), 0, 0, 0, 0, 0, 0, 0, 0, 0, 0);
        Check.due("status()", x.status(), 0);
        Check.due("fault()", x.fault(), 0);
        Check.due("trace(0)", x.trace(0), Check.NONE);
        int[] wantState = {x.hours(1), x.hours(0), x.heat(0), x.heat(-1), x.undo(), x.burst(0), x.burst(-1), x.first(0),
            x.first(2), x.off(1, 0), x.off(0, 0), x.change(1, 0), x.change(1, 2), x.hottest(1), x.hottest(31),
            x.drawn(0, 1, 0), x.drawn(0, 0, 0), x.image(0), x.restore(0), x.restore(1)};
        for (int answer : wantState) {
            Check.due("without a hob", answer, Check.STATE);
        }
        int[] wantBad = {x.stir(0), x.on(0, 1), x.swap(0, 1), x.plums(0, 1), x.basin(0, 0), x.place(0), x.swell(0, 0),
            x.bursting(0), x.stirs(0, 1), x.slices(0, 1), x.fits(0, 0, 0, 1, 0), x.mice(0, 0, 0, 0), x.image(2),
            x.restore(-1), x.kind(0), x.as(0, 0), x.ask(0, 0)};
        for (int answer : wantBad) {
            Check.due("without a basin", answer, Check.BAD);
        }
        for (int row = 0; row < 8; row++) {
            Check.due("a row that is missing", x.drop(row), Check.NULL);
        }
    }
}
