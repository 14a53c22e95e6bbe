import java.lang.reflect.Method;
import java.util.ArrayList;
import java.util.List;
import java.util.Map;

/** Runs of calls told as lines ("row 0 1 3", "read k3,9;p1,1;"), so that one run can be had of several objects. */
final class Script {
    private static final Map<String, Method> OF_CLASS = Check.methodsOf(PuddingHobs.class);
    private static final Map<String, Method> OF_MODEL = Check.methodsOf(Model.class);

    private Script() { }

    /** The answers of all calls, in their order. */
    static List<Integer> run(Object on, String... lines) {
        List<Integer> answers = new ArrayList<>();
        for (String line : lines) {
            String[] words = line.split(" ");
            if (words[0].equals("read")) {
                for (char letter : words[1].toCharArray()) {
                    answers.add(call(on, "feed", letter));
                }
                answers.add(call(on, "hob"));
            } else {
                answers.add(call(on, words[0], numbers(words)));
            }
        }
        return answers;
    }

    static int call(Object on, String name, int... args) {
        return Check.call(on, (on instanceof PuddingHobs ? OF_CLASS : OF_MODEL).get(name), args);
    }

    static String line(String name, int... args) {
        StringBuilder text = new StringBuilder(name);
        for (int arg : args) {
            text.append(' ').append(arg);
        }
        return text.toString();
    }

    private static int[] numbers(String[] words) {
        int[] all = new int[words.length - 1];
        for (int i = 0; i < all.length; i++) {
            all[i] = Integer.parseInt(words[i + 1]);
        }
        return all;
    }
}
