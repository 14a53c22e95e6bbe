import java.lang.reflect.Method;
import java.util.Map;

/** All promises: no call throws, whatever its arguments are, and what is refused changes nothing. */
public final class AnyArgumentsTest {
    private static final int[] ODD = {Integer.MIN_VALUE, -1000000, -1, 0, 1, 2, 6, 7, 8, 12, 30, 41, 60, 255, 999999, Integer.MAX_VALUE};
    private static final String[] HOBS = {"", "k0,5;p0,0;", "k9,5;p20,30;s20,30;l20,30;b20,30;r20,30;s20,30;p20,30;",
        "k9,60;r20,30;b0,0;"};

    public static void main(String[] args) {
        for (Map.Entry<String, Method> entry : Check.methodsOf(PuddingHobs.class).entrySet()) {
            for (String text : HOBS) {
                allArguments(entry.getValue(), new int[entry.getValue().getParameterCount()], 0, text);
            }
        }
        Check.finish();
    }

    private static void allArguments(Method method, int[] args, int next, String text) {
        if (next == args.length) {
            once(method, args, text);
            return;
        }
        // Five arguments with all odd numbers each would be a million objects.
        int step = args.length > 3 ? 3 : 1;
        for (int i = next % step; i < ODD.length; i += step) {
            args[next] = ODD[i];
            allArguments(method, args, next + 1, text);
        }
    }

    private static void once(Method method, int[] args, String text) {
        PuddingHobs x = new PuddingHobs();
        x.row(1, 0, 40);
        x.row(2, 0, 1);
        if (!text.isEmpty()) {
            Check.read(x, text);
            x.stir(0);
            x.hours(1);
        }
        int[] counts = Check.counts(x);
        int answer = Check.call(x, method, args);
        if (answer <= Check.BAD && answer > -1000100) {
            Check.dueAll(method.getName(), Check.counts(x), counts);
        }
    }
}
