import java.lang.reflect.InvocationTargetException;
import java.lang.reflect.Method;
import java.lang.reflect.Modifier;
import java.util.Arrays;
import java.util.LinkedHashMap;
import java.util.Map;

/** What the tests share: answers that are due, hobs read from texts, calls by name. */
final class Check {
    static final int NONE = -1000000, BAD = -1000001, STATE = -1000002, FULL = -1000003;
    static final int NULL = -1000011, PLACE = -1000012, KIND = -1000013, SIZE = -1000014, STORE = -1000015;

    private static int calls = 0;
    private static int wrong = 0;

    private Check() { }

    static void due(String call, long got, long want) {
        calls++;
        if (got != want) {
            wrong++;
            System.out.println(call + " answered " + got + ", due is " + want);
        }
    }

    static void due(String call, boolean holds) {
        due(call, holds ? 1 : 0, 1);
    }

    /** Compares several answers at once, in their order. */
    static void dueAll(String calls, int[] got, int... want) {
        due(calls + " " + Arrays.toString(got) + " against " + Arrays.toString(want), Arrays.equals(got, want));
    }

    static void finish() {
        System.out.println(wrong == 0 ? calls + " answers are as due" : wrong + " answers are not as due");
        if (wrong != 0) {
            System.exit(1);
        }
    }

    static int read(PuddingHobs x, String text) {
        for (char letter : text.toCharArray()) {
            x.feed(letter);
        }
        return x.hob();
    }

    static PuddingHobs hobOf(String text) {
        PuddingHobs x = new PuddingHobs();
        due("hob of " + text + " is read", read(x, text) > 0);
        return x;
    }

    static int[] swells(PuddingHobs x) {
        return ofEach(x, 0);
    }

    static int[] ofEach(PuddingHobs x, int what) {
        int[] all = new int[x.count(1)];
        for (int b = 0; b < all.length; b++) {
            all[b] = x.basin(b, what);
        }
        return all;
    }

    static int[] counts(PuddingHobs x) {
        int[] all = new int[10];
        for (int what = 0; what < all.length; what++) {
            all[what] = x.count(what);
        }
        return all;
    }

    static void rowOf(PuddingHobs x, int row, int lane, int... items) {
        due("row is made", x.row(row, lane, items.length), items.length);
        for (int i = 0; i < items.length; i++) {
            x.set(row, i, items[i]);
        }
    }

    static int[] traces(PuddingHobs x) {
        int[] all = new int[17];
        int n = 0;
        while (n < all.length && x.trace(n) != NONE) {
            all[n] = x.trace(n);
            n++;
        }
        return Arrays.copyOf(all, n);
    }

    /** The public methods that a class declares, by name, in the order of the names. */
    static Map<String, Method> methodsOf(Class<?> type) {
        Method[] all = type.getDeclaredMethods();
        Arrays.sort(all, (a, b) -> a.getName().compareTo(b.getName()));
        Map<String, Method> byName = new LinkedHashMap<>();
        for (Method m : all) {
            if (Modifier.isPublic(m.getModifiers())) {
                byName.put(m.getName(), m);
            }
        }
        return byName;
    }

    static int call(Object on, Method method, int[] args) {
        Object[] boxed = new Object[args.length];
        for (int i = 0; i < args.length; i++) {
            boxed[i] = args[i];
        }
        try {
            return (Integer) method.invoke(on, boxed);
        } catch (InvocationTargetException e) {
            throw new IllegalStateException(method.getName() + Arrays.toString(args), e.getCause());
        } catch (IllegalAccessException e) {
            throw new IllegalStateException(e);
        }
    }
}
