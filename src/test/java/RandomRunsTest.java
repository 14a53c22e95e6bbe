import java.lang.reflect.Method;
import java.util.ArrayList;
import java.util.Arrays;
import java.util.HashMap;
import java.util.List;
import java.util.Map;
import java.util.Random;

/** Promises 1 to 37: runs of calls, the same each time, whose answers are held against the model's. */
public final class RandomRunsTest {
    private static final int RUNS = 1500, CALLS = 512;
    private static final int[] EXTREMES = {Integer.MIN_VALUE, Integer.MIN_VALUE + 1, -1000000, -2, 41, 91, 256, 1000000,
        Integer.MAX_VALUE - 1, Integer.MAX_VALUE};
    private static final int[] BASIN = {-1, 7}, ROW = {-1, 8}, WHAT = {-1, 2}, SPAN = {0, 31}, FAR = {-1, 61};

    private final Map<String, int[][]> ranges = ranges();
    private final Map<String, Method> methods = Check.methodsOf(PuddingHobs.class);
    private final Map<String, Method> models = Check.methodsOf(Model.class);
    private final List<String> names = new ArrayList<>(methods.keySet());
    private final Random random;
    private PuddingHobs program;
    private Model model;
    private int left;

    private RandomRunsTest(long seed) {
        random = new Random(seed);
    }

    public static void main(String[] args) {
        for (int run = 0; run < RUNS; run++) {
            new RandomRunsTest(run).run(run);
        }
        Check.finish();
    }

    private static Map<String, int[][]> ranges() {
        Map<String, int[][]> all = new HashMap<>();
        all.put("row", new int[][] {ROW, {-1, 3}, {-1, 41}});
        all.put("set", new int[][] {ROW, {-1, 12}, {-300, 300}});
        all.put("copy", new int[][] {{-1, 3}, {-1, 12}, {-1, 3}, {-1, 12}, {-1, 12}});
        all.put("drop", new int[][] {ROW});
        all.put("feed", new int[][] {{-1, 256}});
        all.put("hours", new int[][] {{0, 4}});
        all.put("stir", new int[][] {BASIN});
        all.put("on", new int[][] {BASIN, WHAT});
        all.put("swap", new int[][] {BASIN, BASIN});
        all.put("plums", new int[][] {BASIN, {0, 21}});
        all.put("heat", new int[][] {{-1, 10}});
        all.put("basin", new int[][] {BASIN, {-1, 7}});
        all.put("place", new int[][] {BASIN});
        all.put("swell", new int[][] {BASIN, FAR});
        all.put("burst", new int[][] {FAR});
        all.put("bursting", new int[][] {BASIN});
        all.put("first", new int[][] {WHAT});
        all.put("stirs", new int[][] {BASIN, SPAN});
        all.put("off", new int[][] {SPAN, WHAT});
        all.put("change", new int[][] {SPAN, WHAT});
        all.put("hottest", new int[][] {SPAN});
        all.put("slices", new int[][] {BASIN, {-1, 1000}});
        all.put("fits", new int[][] {BASIN, {-1, 3}, {-1, 12}, {0, 13}, {-1, 5}});
        all.put("mice", new int[][] {BASIN, {-1, 31}, {-1, 11}, WHAT});
        all.put("drawn", new int[][] {FAR, {0, 1000000}, WHAT});
        all.put("image", new int[][] {WHAT});
        all.put("restore", new int[][] {WHAT});
        all.put("kind", new int[][] {BASIN});
        all.put("as", new int[][] {BASIN, {-1, 6}});
        all.put("ask", new int[][] {BASIN, WHAT});
        all.put("trace", new int[][] {{-1, 17}});
        all.put("count", new int[][] {{-1, 10}});
        return all;
    }

    private void run(int run) {
        program = new PuddingHobs();
        model = new Model();
        left = CALLS;
        while (left > 0) {
            int turn = random.nextInt(100);
            if (turn < 3) {
                feedText();
            } else if (turn < 8) {
                tellTheTruth();
            } else {
                callOf(names.get(random.nextInt(names.size())));
            }
        }
    }

    /** Of later calls nothing is promised: a text that does not fit into the run any more is cut short. */
    private void both(String name, int... args) {
        if (left == 0) {
            return;
        }
        left--;
        int want = Check.call(model, models.get(name), args);
        Check.due(name + Arrays.toString(args), Check.call(program, methods.get(name), args), want);
    }

    private void callOf(String name) {
        // Hobs come by whole texts: a single byte would mostly spoil the next one.
        if (name.equals("hob") || name.equals("feed") && random.nextInt(20) > 0) {
            return;
        }
        int[][] spans = ranges.getOrDefault(name, new int[0][]);
        int[] args = new int[spans.length];
        for (int i = 0; i < args.length; i++) {
            args[i] = within(spans[i][0], spans[i][1]);
            if (random.nextInt(60) == 0) {
                args[i] = EXTREMES[random.nextInt(EXTREMES.length)];
            }
        }
        both(name, args);
    }

    private int within(int least, int most) {
        return least + random.nextInt(most - least + 1);
    }

    private void feedText() {
        StringBuilder text = new StringBuilder();
        text.append('k').append(within(0, 9)).append(',').append(within(5, 60)).append(';');
        int basins = random.nextInt(8) == 0 ? within(0, 8) : within(1, 7);
        for (int b = 0; b < basins; b++) {
            text.append("pslbr".charAt(random.nextInt(5))).append(within(0, 20)).append(',').append(within(0, 30)).append(';');
        }
        if (random.nextInt(4) == 0) {
            spoil(text);
        }
        for (int i = 0; i < text.length(); i++) {
            both("feed", text.charAt(i));
        }
        both("hob");
        both("fault");
    }

    private void spoil(StringBuilder text) {
        int at = random.nextInt(text.length());
        char letter = "kpslbrx0129,; A".charAt(random.nextInt(15));
        switch (random.nextInt(4)) {
            case 0: text.setCharAt(at, letter); break;
            case 1: text.insert(at, letter); break;
            case 2: text.deleteCharAt(at); break;
            default: text.setLength(at);
        }
    }

    /** A row with what a basin will do, at times with one item off, so that fits has something to find. */
    private void tellTheTruth() {
        int basin = within(0, 6);
        int n = within(1, 12);
        int row = within(0, 2);
        both("row", row, within(0, 2), 12);
        for (int h = 0; h < n; h++) {
            both("set", row, h, model.swell(basin, h + 1));
        }
        if (random.nextInt(3) == 0) {
            int h = random.nextInt(n);
            both("set", row, h, model.swell(basin, h + 1) + within(-3, 3));
        }
        for (int what = 0; what < 5; what++) {
            both("fits", basin, row, 0, within(1, n), what);
        }
    }
}
