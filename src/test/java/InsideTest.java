import java.lang.reflect.Field;
import java.lang.reflect.Method;

/**
 * Two edges that no run of calls reaches: SWELL 99 at most, the first 16 of the trace. They are set up inside
 * the object by the names of its fields; if those are changed, this test is to be changed with them.
 */
public final class InsideTest {
    public static void main(String[] args) throws ReflectiveOperationException {
        swellIs99AtMostInAnHour();
        swellIs99AtMostInARound();
        theFirst16OfTheTrace();
        Check.finish();
    }

    private static Object inside(Object on, String field) throws ReflectiveOperationException {
        Field f = on.getClass().getDeclaredField(field);
        f.setAccessible(true);
        return f.get(on);
    }

    private static PuddingHobs hobOf(String text, int cloth, int... swells) throws ReflectiveOperationException {
        PuddingHobs x = Check.hobOf(text);
        Object hob = inside(x, "now");
        Field f = hob.getClass().getDeclaredField("cloth");
        f.setAccessible(true);
        f.setInt(hob, cloth);
        System.arraycopy(swells, 0, (int[]) inside(hob, "swells"), 0, swells.length);
        return x;
    }

    private static void swellIs99AtMostInAnHour() throws ReflectiveOperationException {
        PuddingHobs x = hobOf("k9,60;p0,0;s8,0;p0,0;p0,0;", 99, 89, 89, 92, 99);
        Check.dueAll("ahead", Check.swells(x), 89, 89, 92, 99);
        Check.dueAll("foretold", new int[] {x.swell(0, 1), x.swell(1, 1), x.swell(2, 1), x.swell(0, 2)}, 98, 99, 99, 99);
        Check.due("none bursts at 99", x.hours(1), 0);
        Check.dueAll("behind", Check.swells(x), 98, 99, 99, 99);
        Check.due("none bursts at 99", x.hours(24), 0);
        Check.dueAll("for good", Check.swells(x), 99, 99, 99, 99);
    }

    private static void swellIs99AtMostInARound() throws ReflectiveOperationException {
        PuddingHobs x = hobOf("k0,60;p0,0;p0,0;p0,0;p0,0;", 97, 97, 98, 95, 94);
        Check.due("one, then those beside it", x.hours(1), 0b0111);
        Check.dueAll("behind", Check.swells(x), 99, 98, 98, 97);
    }

    private static void theFirst16OfTheTrace() throws ReflectiveOperationException {
        PuddingHobs x = Check.hobOf("k0,60;p0,0;");
        Object asks = inside(x, "asks");
        Method leave = asks.getClass().getDeclaredMethod("leave", int.class);
        leave.setAccessible(true);
        for (int number = 10; number < 28; number++) {
            leave.invoke(asks, number);
        }
        for (int i = 0; i < 16; i++) {
            Check.due("trace " + i, x.trace(i), 10 + i);
        }
        Check.dueAll("behind the first 16", new int[] {x.trace(16), x.trace(17), x.trace(18)}, Check.NONE, Check.NONE, Check.NONE);
        x.ask(0, 1);
        Check.dueAll("empty ahead of an ask", Check.traces(x), 21, 20);
    }
}
