import java.math.BigInteger;
import java.util.ArrayList;
import java.util.List;
import java.util.regex.Matcher;
import java.util.regex.Pattern;

/**
 * The document told a second time, word by word and without regard to cost, so that
 * random runs of calls can be held against it. It shares no code with PuddingHobs.
 */
public final class Model {
    private static final int NONE = -1000000, BAD = -1000001, STATE = -1000002, FULL = -1000003;
    private static final Pattern TOKEN = Pattern.compile("[a-z]|[0-9]+|.", Pattern.DOTALL);

    private final int[][] rows = new int[8][];
    private final int[] lanes = new int[8];
    private final List<World> before = new ArrayList<>();
    private final World[] images = new World[2];
    private List<Integer> trace = new ArrayList<>();
    private String tape = "";
    private World world = null;
    private int fault = 0;
    private int status = 0;

    /** SIZE and MARK as lent to all basins. */
    private interface Lent {
        Pudding self();

        List<Integer> trace();

        default int size() {
            trace().add(10);
            return self().plums;
        }

        default int mark() {
            trace().add(20);
            return self().number;
        }
    }

    private abstract static class Basin implements Lent {
        private final Pudding self;
        private final List<Integer> trace;

        Basin(Pudding self, List<Integer> trace) {
            this.self = self;
            this.trace = trace;
        }

        @Override public Pudding self() {
            return self;
        }

        @Override public List<Integer> trace() {
            return trace;
        }
    }

    private static class Plain extends Basin {
        Plain(Pudding self, List<Integer> trace) {
            super(self, trace);
        }

        @Override public int size() {
            trace().add(11);
            return super.size() + mark();
        }

        @Override public int mark() {
            trace().add(21);
            return super.mark() + self().swell;
        }
    }

    private static final class Spotted extends Plain {
        Spotted(Pudding self, List<Integer> trace) {
            super(self, trace);
        }

        @Override public int size() {
            trace().add(12);
            return 0 - super.size();
        }

        @Override public int mark() {
            trace().add(24);
            return super.mark() * 2;
        }
    }

    private static final class Light extends Plain {
        Light(Pudding self, List<Integer> trace) {
            super(self, trace);
        }

        @Override public int mark() {
            trace().add(22);
            return super.mark() - 1000;
        }
    }

    private static class Black extends Basin {
        Black(Pudding self, List<Integer> trace) {
            super(self, trace);
        }

        @Override public int size() {
            trace().add(13);
            return super.size() - 100;
        }

        @Override public int mark() {
            trace().add(23);
            return super.mark() - size();
        }
    }

    private static final class Brandy extends Black {
        Brandy(Pudding self, List<Integer> trace) {
            super(self, trace);
        }

        @Override public int size() {
            trace().add(14);
            return super.size() * 2;
        }
    }

    private static final class Pudding {
        int number, kind, plums, swell, place;
        boolean on = true, burst, stirred;

        Pudding twin() {
            Pudding p = new Pudding();
            p.number = number;
            p.kind = kind;
            p.plums = plums;
            p.swell = swell;
            p.place = place;
            p.on = on;
            p.burst = burst;
            p.stirred = stirred;
            return p;
        }

        void stir() {
            swell = swell < 2 ? 0 : swell - 2;
            stirred = true;
        }

        void swellBy(int by) {
            swell = swell + by > 99 ? 99 : swell + by;
        }

        Basin asKind(List<Integer> trace) {
            switch (kind) {
                case 1: return new Plain(this, trace);
                case 2: return new Spotted(this, trace);
                case 3: return new Light(this, trace);
                case 4: return new Black(this, trace);
                default: return new Brandy(this, trace);
            }
        }
    }

    private static final class World {
        int heat, cloth, hour;
        List<Pudding> puddings = new ArrayList<>();

        World twin() {
            World w = new World();
            w.heat = heat;
            w.cloth = cloth;
            w.hour = hour;
            for (Pudding p : puddings) {
                w.puddings.add(p.twin());
            }
            return w;
        }

        int glow(Pudding p) {
            return p.on && heat > p.place ? heat - p.place : 0;
        }

        int growth(Pudding p) {
            int glow = glow(p);
            if (p.burst || glow == 0 || p.kind > 3 && !p.stirred) {
                return 0;
            }
            return new int[] {0, glow, glow + p.plums / 4, glow / 2, glow, 2 * glow}[p.kind];
        }

        World after(int hours) {
            World w = twin();
            for (int h = 0; h < hours; h++) {
                w.oneHour();
            }
            return w;
        }

        void oneHour() {
            for (Pudding p : puddings) {
                p.swellBy(growth(p));
            }
            for (Pudding p : puddings) {
                p.stirred = false;
            }
            List<Pudding> bursting = bursting();
            while (!bursting.isEmpty()) {
                for (Pudding p : bursting) {
                    p.burst = true;
                }
                for (Pudding p : puddings) {
                    for (Pudding q : bursting) {
                        if (!p.burst && Math.abs(p.place - q.place) == 1) {
                            p.swellBy(3);
                        }
                    }
                }
                bursting = bursting();
            }
            hour++;
        }

        List<Pudding> bursting() {
            List<Pudding> all = new ArrayList<>();
            for (Pudding p : puddings) {
                if (!p.burst && p.swell > cloth) {
                    all.add(p);
                }
            }
            return all;
        }

        int burstBits() {
            int bits = 0;
            for (Pudding p : puddings) {
                bits += p.burst ? 1 << p.number : 0;
            }
            return bits;
        }

        int onBits() {
            int bits = 0;
            for (Pudding p : puddings) {
                bits += p.on ? 1 << p.number : 0;
            }
            return bits;
        }

        int stirredBits() {
            int bits = 0;
            for (Pudding p : puddings) {
                bits += p.stirred ? 1 << p.number : 0;
            }
            return bits;
        }

        void change(int a, int b) {
            int place = puddings.get(a).place;
            puddings.get(a).place = puddings.get(b).place;
            puddings.get(b).place = place;
        }
    }

    private boolean noBasin(int basin) {
        return world == null || basin < 0 || basin >= world.puddings.size();
    }

    private static boolean out(int v, int least, int most) {
        return v < least || v > most;
    }

    private int find(int number) {
        status = number;
        return -1000010 - number;
    }

    private int fine(int answer) {
        status = 0;
        return answer;
    }

    private void act() {
        before.add(world.twin());
        if (before.size() > 24) {
            before.remove(0);
        }
    }

    public int row(int row, int lane, int n) {
        if (out(row, 0, 7) || out(lane, 0, 2) || n > 40) {
            return BAD;
        }
        if (n < 0) {
            return find(4);
        }
        rows[row] = new int[n];
        lanes[row] = lane;
        return fine(n);
    }

    public int set(int row, int i, int v) {
        if (out(row, 0, 7)) {
            return BAD;
        }
        if (rows[row] == null) {
            return find(1);
        }
        if (out(i, 0, rows[row].length - 1)) {
            return find(2);
        }
        int shift = new int[] {24, 16, 0}[lanes[row]];
        rows[row][i] = v << shift >> shift;
        return fine(rows[row][i]);
    }

    public int copy(int a, int i, int b, int j, int n) {
        if (out(a, 0, 7) || out(b, 0, 7)) {
            return BAD;
        }
        if (rows[a] == null || rows[b] == null) {
            return find(1);
        }
        if (lanes[a] != lanes[b]) {
            return find(5);
        }
        if (i < 0 || j < 0 || n < 0 || (long) i + n > rows[a].length || (long) j + n > rows[b].length) {
            return find(2);
        }
        int[] ahead = rows[a].clone();
        for (int k = 0; k < n; k++) {
            rows[b][j + k] = ahead[i + k];
        }
        return fine(n);
    }

    public int drop(int row) {
        if (out(row, 0, 7)) {
            return BAD;
        }
        if (rows[row] == null) {
            return find(1);
        }
        int had = rows[row].length;
        rows[row] = null;
        return fine(had);
    }

    public int feed(int letter) {
        if (out(letter, 0, 255)) {
            return BAD;
        }
        if (tape.length() == 90) {
            return FULL;
        }
        tape += (char) letter;
        return tape.length();
    }

    public int hob() {
        String text = tape;
        tape = "";
        World fresh = new World();
        int tokens = 0;
        for (Matcher m = TOKEN.matcher(text); m.find(); tokens++) {
            int number = faultOf(m.group(), tokens);
            if (number != 0) {
                fault = number;
                return -1000100 - m.start();
            }
            take(fresh, m.group(), tokens);
        }
        if (tokens < 10 || tokens % 5 != 0) {
            fault = 1;
            return -1000100 - text.length();
        }
        world = fresh;
        before.clear();
        return world.puddings.size();
    }

    private static int faultOf(String token, int index) {
        boolean law = index < 5;
        switch (index % 5) {
            case 0: return !(law ? "k" : "pslbr").contains(token) ? 1 : index >= 40 ? 3 : 0;
            case 1: return numberFault(token, 0, law ? 9 : 20);
            case 2: return token.equals(",") ? 0 : 1;
            case 3: return numberFault(token, law ? 5 : 0, law ? 60 : 30);
            default: return token.equals(";") ? 0 : 1;
        }
    }

    private static int numberFault(String token, int least, int most) {
        if (!token.matches("[0-9]{1,2}")) {
            return 1;
        }
        return out(Integer.parseInt(token), least, most) ? 2 : 0;
    }

    private static void take(World fresh, String token, int index) {
        List<Pudding> all = fresh.puddings;
        if (index % 5 == 0 && index > 0) {
            Pudding p = new Pudding();
            p.number = all.size();
            p.place = all.size();
            p.kind = 1 + "pslbr".indexOf(token);
            all.add(p);
        } else if (index == 1) {
            fresh.heat = Integer.parseInt(token);
        } else if (index == 3) {
            fresh.cloth = Integer.parseInt(token);
        } else if (index % 5 == 1) {
            all.get(all.size() - 1).plums = Integer.parseInt(token);
        } else if (index % 5 == 3) {
            all.get(all.size() - 1).swell = Integer.parseInt(token);
        }
    }

    public int fault() {
        return fault;
    }

    public int hours(int n) {
        if (world == null) {
            return STATE;
        }
        if (out(n, 1, 24)) {
            return BAD;
        }
        if (world.hour + n > 9999) {
            return FULL;
        }
        for (int h = 0; h < n; h++) {
            act();
            world.oneHour();
        }
        return world.burstBits();
    }

    public int stir(int basin) {
        if (noBasin(basin)) {
            return BAD;
        }
        if (world.puddings.get(basin).burst) {
            return STATE;
        }
        act();
        world.puddings.get(basin).stir();
        return world.puddings.get(basin).swell;
    }

    public int on(int basin, int on) {
        if (noBasin(basin) || out(on, 0, 1)) {
            return BAD;
        }
        if (world.puddings.get(basin).on == (on == 1)) {
            return STATE;
        }
        act();
        world.puddings.get(basin).on = on == 1;
        return world.onBits();
    }

    public int swap(int one, int other) {
        if (noBasin(one) || noBasin(other) || one == other) {
            return BAD;
        }
        act();
        world.change(one, other);
        return world.puddings.get(one).place;
    }

    public int plums(int basin, int n) {
        if (noBasin(basin) || out(n, 1, 20)) {
            return BAD;
        }
        Pudding p = world.puddings.get(basin);
        if (p.burst) {
            return STATE;
        }
        act();
        p.plums = p.plums + n > 20 ? 20 : p.plums + n;
        return p.plums;
    }

    public int heat(int v) {
        if (world == null) {
            return STATE;
        }
        if (out(v, 0, 9)) {
            return BAD;
        }
        act();
        int was = world.heat;
        world.heat = v;
        return was;
    }

    public int undo() {
        if (before.isEmpty()) {
            return STATE;
        }
        world = before.remove(before.size() - 1);
        return before.size();
    }

    public int basin(int basin, int what) {
        if (noBasin(basin) || out(what, 0, 6)) {
            return BAD;
        }
        Pudding p = world.puddings.get(basin);
        return new int[] {p.swell, p.plums, p.place, p.on ? 1 : 0, p.burst ? 1 : 0, world.glow(p), world.growth(p)}[what];
    }

    public int place(int place) {
        if (noBasin(place)) {
            return BAD;
        }
        int there = 0;
        while (world.puddings.get(there).place != place) {
            there++;
        }
        return there;
    }

    public int swell(int basin, int d) {
        return noBasin(basin) || out(d, 0, 60) ? BAD : world.after(d).puddings.get(basin).swell;
    }

    public int burst(int d) {
        return world == null ? STATE : out(d, 0, 60) ? BAD : world.after(d).burstBits();
    }

    public int bursting(int basin) {
        if (noBasin(basin)) {
            return BAD;
        }
        for (int d = 0; d <= 60; d++) {
            if (world.after(d).puddings.get(basin).burst) {
                return d;
            }
        }
        return NONE;
    }

    public int first(int what) {
        if (world == null) {
            return STATE;
        }
        if (out(what, 0, 1)) {
            return BAD;
        }
        for (int d = 1; d <= 60; d++) {
            for (Pudding p : world.after(d).puddings) {
                if (p.burst && !world.puddings.get(p.number).burst) {
                    return what == 0 ? p.number : d;
                }
            }
        }
        return NONE;
    }

    public int stirs(int basin, int n) {
        if (noBasin(basin) || out(n, 1, 30)) {
            return BAD;
        }
        World stirred = world.twin();
        for (int k = 0; k <= 20; k++) {
            if (!stirred.after(n).puddings.get(basin).burst) {
                return k;
            }
            stirred.puddings.get(basin).stir();
        }
        return NONE;
    }

    public int off(int n, int what) {
        if (world == null) {
            return STATE;
        }
        if (out(n, 1, 30) || out(what, 0, 1)) {
            return BAD;
        }
        for (int many = 0; many <= world.puddings.size(); many++) {
            for (int set = 0; set < 1 << world.puddings.size(); set++) {
                if (Integer.bitCount(set) == many && keeps(without(set), n)) {
                    return what == 0 ? many : set;
                }
            }
        }
        return NONE;
    }

    private World without(int set) {
        World w = world.twin();
        for (Pudding p : w.puddings) {
            p.on = p.on && (set >> p.number) % 2 == 0;
        }
        return w;
    }

    private boolean keeps(World w, int n) {
        return w.after(n).burstBits() == world.burstBits();
    }

    public int change(int n, int what) {
        if (world == null) {
            return STATE;
        }
        if (out(n, 1, 30) || out(what, 0, 1)) {
            return BAD;
        }
        for (int many = 0; many <= 7; many++) {
            for (int pair = 1; pair < 67; pair++) {
                if (pair / 10 < pair % 10 && pair % 10 < world.puddings.size()) {
                    World w = world.twin();
                    w.change(pair / 10, pair % 10);
                    if (Integer.bitCount(w.after(n).burstBits()) == many) {
                        return what == 0 ? pair : many;
                    }
                }
            }
        }
        return NONE;
    }

    public int hottest(int n) {
        if (world == null) {
            return STATE;
        }
        if (out(n, 1, 30)) {
            return BAD;
        }
        int greatest = NONE;
        for (int heat = 0; heat <= 9; heat++) {
            World w = world.twin();
            w.heat = heat;
            greatest = keeps(w, n) ? heat : greatest;
        }
        return greatest;
    }

    public int slices(int basin, int n) {
        if (noBasin(basin) || out(n, 0, 999)) {
            return BAD;
        }
        int all = 0;
        for (Pudding p : world.puddings) {
            all += p.burst ? 0 : p.plums;
        }
        int[] share = new int[7];
        int over = all == 0 ? 0 : n;
        for (Pudding p : world.puddings) {
            share[p.number] = p.burst || all == 0 ? 0 : n * p.plums / all;
            over -= share[p.number];
        }
        for (Pudding p : world.puddings) {
            if (over > 0 && !p.burst && p.plums > 0) {
                share[p.number]++;
                over--;
            }
        }
        return share[basin];
    }

    public int fits(int basin, int row, int i, int n, int what) {
        if (noBasin(basin) || out(row, 0, 7) || out(n, 1, 12) || out(what, 0, 4)) {
            return BAD;
        }
        if (rows[row] == null) {
            return find(1);
        }
        if (i < 0 || (long) i + n > rows[row].length) {
            return find(2);
        }
        int[] least = {1, 0, 0, 5, 5};
        int[] most = {5, 20, 9, 60, 60};
        List<Integer> fit = new ArrayList<>();
        for (int v = least[what]; v <= most[what]; v++) {
            World w = world.twin();
            Pudding p = w.puddings.get(basin);
            p.kind = what == 0 ? v : p.kind;
            p.plums = what == 1 ? v : p.plums;
            w.heat = what == 2 ? v : w.heat;
            w.cloth = what >= 3 ? v : w.cloth;
            boolean so = true;
            for (int h = 0; h < n; h++) {
                so = so && w.after(h + 1).puddings.get(basin).swell == rows[row][i + h];
            }
            if (so) {
                fit.add(v);
            }
        }
        int bits = 0;
        for (int v : fit) {
            bits |= 1 << v;
        }
        return fine(what < 3 ? bits : what == 3 ? fit.size() : fit.isEmpty() ? NONE : fit.get(0));
    }

    public int mice(int basin, int n, int c, int what) {
        if (noBasin(basin) || out(n, 0, 30) || out(c, 0, 10) || out(what, 0, 1)) {
            return BAD;
        }
        BigInteger above = BigInteger.valueOf(outcomes(world.twin(), 0, basin, n, c));
        BigInteger below = BigInteger.TEN.pow(world.puddings.size());
        return (what == 0 ? above : below).divide(above.gcd(below)).intValue();
    }

    private static long outcomes(World w, int next, int basin, int n, int c) {
        if (next == w.puddings.size()) {
            return w.after(n).puddings.get(basin).burst ? 1 : 0;
        }
        World had = w.twin();
        had.puddings.get(next).on = false;
        had.puddings.get(next).swell = 0;
        return c * outcomes(had, next + 1, basin, n, c) + (10 - c) * outcomes(w, next + 1, basin, n, c);
    }

    public int drawn(int n, int seed, int what) {
        if (world == null) {
            return STATE;
        }
        if (out(n, 0, 60) || out(seed, 1, 999999) || out(what, 0, 1)) {
            return BAD;
        }
        World w = world.twin();
        BigInteger x = BigInteger.valueOf(seed);
        for (int h = 0; h < n; h++) {
            x = x.multiply(BigInteger.valueOf(16807)).mod(BigInteger.valueOf(2147483647));
            w.heat = x.intValue() % 10;
            Pudding p = w.puddings.get(x.intValue() % w.puddings.size());
            if (!x.testBit(0) && !p.burst) {
                p.stir();
            } else {
                p.on = !p.on;
            }
            w.oneHour();
        }
        int together = 0;
        for (Pudding p : w.puddings) {
            together += p.burst ? 0 : p.swell;
        }
        return what == 0 ? Integer.bitCount(w.burstBits()) : together;
    }

    public int image(int k) {
        if (out(k, 0, 1)) {
            return BAD;
        }
        if (world == null) {
            return STATE;
        }
        images[k] = world.twin();
        return 1;
    }

    public int restore(int k) {
        if (out(k, 0, 1)) {
            return BAD;
        }
        if (images[k] == null) {
            return STATE;
        }
        world = images[k].twin();
        before.clear();
        return 1;
    }

    public int kind(int basin) {
        return noBasin(basin) ? BAD : world.puddings.get(basin).kind;
    }

    public int as(int basin, int kind) {
        if (noBasin(basin) || out(kind, 0, 5)) {
            return BAD;
        }
        Basin b = world.puddings.get(basin).asKind(trace);
        boolean is = new boolean[] {true, b instanceof Plain, b instanceof Spotted, b instanceof Light,
            b instanceof Black, b instanceof Brandy}[kind];
        return is ? fine(basin) : find(3);
    }

    public int ask(int basin, int what) {
        if (noBasin(basin) || out(what, 0, 1)) {
            return BAD;
        }
        trace = new ArrayList<>();
        Basin b = world.puddings.get(basin).asKind(trace);
        return what == 0 ? b.size() : b.mark();
    }

    public int trace(int i) {
        return out(i, 0, Math.min(16, trace.size()) - 1) ? NONE : trace.get(i);
    }

    public int count(int what) {
        int held = 0;
        for (int[] row : rows) {
            held += row == null ? 0 : 1;
        }
        World w = world == null ? new World() : world;
        int[] all = {held, w.puddings.size(), w.hour, w.heat, w.cloth, w.burstBits(), w.onBits(), w.stirredBits(),
            before.size(), tape.length()};
        return out(what, 0, 9) ? BAD : all[what];
    }

    public int status() {
        return status;
    }
}
