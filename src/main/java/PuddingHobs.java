/** Puddings that boil side by side on a hob; the promises are numbered in the document, DOC.md. */
public final class PuddingHobs {
    public static final int NONE = -1000000, BAD = -1000001, STATE = -1000002, FULL = -1000003;

    private static final int FINDING = -1000010, FAULT = -1000100;
    private static final int NULL_ROW = 1, NO_PLACE = 2, NOT_THAT_KIND = 3, BELOW_NONE = 4, TWO_LANES = 5;
    private static final int FARTHEST = 60, LONGEST = 30, LAST_HOUR = 9999;

    private final Rows rows;
    private final Tape tape;
    private final Hob now;
    private final Hob draft;
    private final Acts acts;
    private final Images images;
    private final Foresight foresight;
    private final Asks asks;
    private int latestFinding;

    public PuddingHobs() {
        rows = new Rows();
        tape = new Tape();
        now = new Hob();
        draft = new Hob();
        acts = new Acts();
        images = new Images();
        foresight = new Foresight(now);
        asks = new Asks(now);
    }

    // ---- rows

    public int row(int row, int lane, int n) {
        if (!Rows.isRow(row) || !Rows.isLane(lane) || n > Rows.MOST_ITEMS) {
            return BAD;
        }
        if (n < 0) {
            return found(BELOW_NONE);
        }
        rows.make(row, lane, n);
        return unfound(n);
    }

    public int set(int row, int i, int v) {
        if (!Rows.isRow(row)) {
            return BAD;
        }
        if (rows.isMissing(row)) {
            return found(NULL_ROW);
        }
        if (!rows.hasRun(row, i, 1)) {
            return found(NO_PLACE);
        }
        return unfound(rows.put(row, i, v));
    }

    public int copy(int a, int i, int b, int j, int n) {
        if (!Rows.isRow(a) || !Rows.isRow(b)) {
            return BAD;
        }
        if (rows.isMissing(a) || rows.isMissing(b)) {
            return found(NULL_ROW);
        }
        if (!rows.haveOneLane(a, b)) {
            return found(TWO_LANES);
        }
        if (!rows.hasRun(a, i, n) || !rows.hasRun(b, j, n)) {
            return found(NO_PLACE);
        }
        rows.move(a, i, b, j, n);
        return unfound(n);
    }

    public int drop(int row) {
        if (!Rows.isRow(row)) {
            return BAD;
        }
        if (rows.isMissing(row)) {
            return found(NULL_ROW);
        }
        return unfound(rows.forget(row));
    }

    // ---- hobs, acts

    public int feed(int letter) {
        if (letter < 0 || letter > 255) {
            return BAD;
        }
        return tape.append(letter) ? tape.size() : FULL;
    }

    public int hob() {
        if (!tape.readInto(draft)) {
            return FAULT - tape.faultPlace();
        }
        now.takeFrom(draft);
        acts.forgetAll();
        return now.size;
    }

    public int fault() {
        return tape.latestFault();
    }

    public int hours(int n) {
        if (now.isNone()) {
            return STATE;
        }
        if (n < 1 || n > 24) {
            return BAD;
        }
        if (now.hour > LAST_HOUR - n) {
            return FULL;
        }
        for (int h = 0; h < n; h++) {
            acts.keep(now);
            now.boil();
        }
        return now.burstSet;
    }

    public int stir(int basin) {
        if (!now.has(basin)) {
            return BAD;
        }
        if (now.isBurst(basin)) {
            return STATE;
        }
        acts.keep(now);
        now.stirOnce(basin);
        return now.swells[basin];
    }

    public int on(int basin, int on) {
        if (!now.has(basin) || !isBit(on)) {
            return BAD;
        }
        boolean wanted = on == 1;
        if (now.isOn(basin) == wanted) {
            return STATE;
        }
        acts.keep(now);
        now.turn(basin);
        return now.onSet;
    }

    public int swap(int one, int other) {
        if (!now.has(one) || !now.has(other) || one == other) {
            return BAD;
        }
        acts.keep(now);
        now.exchange(one, other);
        return now.places[one];
    }

    public int plums(int basin, int n) {
        if (!now.has(basin) || n < 1 || n > Hob.MOST_PLUMS) {
            return BAD;
        }
        if (now.isBurst(basin)) {
            return STATE;
        }
        acts.keep(now);
        now.plums[basin] = Math.min(Hob.MOST_PLUMS, now.plums[basin] + n);
        return now.plums[basin];
    }

    public int heat(int v) {
        if (now.isNone()) {
            return STATE;
        }
        if (v < 0 || v > Hob.MOST_HEAT) {
            return BAD;
        }
        acts.keep(now);
        int before = now.heat;
        now.heat = v;
        return before;
    }

    public int undo() {
        return acts.takeBack(now) ? acts.left() : STATE;
    }

    public int basin(int basin, int what) {
        if (!now.has(basin)) {
            return BAD;
        }
        switch (what) {
            case 0: return now.swells[basin];
            case 1: return now.plums[basin];
            case 2: return now.places[basin];
            case 3: return now.isOn(basin) ? 1 : 0;
            case 4: return now.isBurst(basin) ? 1 : 0;
            case 5: return now.glowOf(basin);
            case 6: return now.growthOf(basin);
            default: return BAD;
        }
    }

    public int place(int place) {
        for (int b = 0; b < now.size; b++) {
            if (now.places[b] == place) {
                return b;
            }
        }
        return BAD;
    }

    // ---- foretold

    public int swell(int basin, int d) {
        if (!now.has(basin) || d < 0 || d > FARTHEST) {
            return BAD;
        }
        return foresight.swellBehind(basin, d);
    }

    public int burst(int d) {
        if (now.isNone()) {
            return STATE;
        }
        if (d < 0 || d > FARTHEST) {
            return BAD;
        }
        return foresight.burstBehind(d);
    }

    public int bursting(int basin) {
        if (!now.has(basin)) {
            return BAD;
        }
        return foresight.hoursTillBurst(basin);
    }

    public int first(int what) {
        if (now.isNone()) {
            return STATE;
        }
        if (!isBit(what)) {
            return BAD;
        }
        return foresight.firstToBurst(what);
    }

    public int stirs(int basin, int n) {
        if (!now.has(basin) || !isSpan(n)) {
            return BAD;
        }
        return foresight.fewestStirs(basin, n);
    }

    public int off(int n, int what) {
        if (now.isNone()) {
            return STATE;
        }
        if (!isSpan(n) || !isBit(what)) {
            return BAD;
        }
        int set = foresight.fewestOff(n);
        return set == NONE || what == 1 ? set : Integer.bitCount(set);
    }

    public int change(int n, int what) {
        if (now.isNone()) {
            return STATE;
        }
        if (!isSpan(n) || !isBit(what)) {
            return BAD;
        }
        return foresight.bestChange(n, what);
    }

    public int hottest(int n) {
        if (now.isNone()) {
            return STATE;
        }
        if (!isSpan(n)) {
            return BAD;
        }
        return foresight.greatestHeat(n);
    }

    public int slices(int basin, int n) {
        if (!now.has(basin) || n < 0 || n > 999) {
            return BAD;
        }
        return now.slicesOf(basin, n);
    }

    public int fits(int basin, int row, int i, int n, int what) {
        if (!now.has(basin) || !Rows.isRow(row) || n < 1 || n > Foresight.MOST_TOLD || what < 0 || what > 4) {
            return BAD;
        }
        if (rows.isMissing(row)) {
            return found(NULL_ROW);
        }
        if (!rows.hasRun(row, i, n)) {
            return found(NO_PLACE);
        }
        for (int h = 0; h < n; h++) {
            foresight.told[h] = rows.item(row, i + h);
        }
        return unfound(foresight.fitting(basin, n, what));
    }

    public int mice(int basin, int n, int c, int what) {
        if (!now.has(basin) || n < 0 || n > LONGEST || c < 0 || c > 10 || !isBit(what)) {
            return BAD;
        }
        return foresight.chanceWithMice(basin, n, c, what);
    }

    public int drawn(int n, int seed, int what) {
        if (now.isNone()) {
            return STATE;
        }
        if (n < 0 || n > FARTHEST || seed < 1 || seed > 999999 || !isBit(what)) {
            return BAD;
        }
        return foresight.century(n, seed, what);
    }

    public int image(int k) {
        if (!isBit(k)) {
            return BAD;
        }
        if (now.isNone()) {
            return STATE;
        }
        images.keep(k, now);
        return 1;
    }

    public int restore(int k) {
        if (!isBit(k)) {
            return BAD;
        }
        if (!images.isKept(k)) {
            return STATE;
        }
        images.showTo(k, now);
        acts.forgetAll();
        return 1;
    }

    // ---- asked

    public int kind(int basin) {
        return now.has(basin) ? now.kinds[basin] : BAD;
    }

    public int as(int basin, int kind) {
        if (!now.has(basin) || kind < 0 || kind > Hob.BRANDY) {
            return BAD;
        }
        if (!Asks.isA(now.kinds[basin], kind)) {
            return found(NOT_THAT_KIND);
        }
        return unfound(basin);
    }

    public int ask(int basin, int what) {
        if (!now.has(basin) || !isBit(what)) {
            return BAD;
        }
        return asks.answerAnew(basin, what);
    }

    public int trace(int i) {
        return asks.traced(i);
    }

    public int count(int what) {
        switch (what) {
            case 0: return rows.held();
            case 1: return now.size;
            case 2: return now.hour;
            case 3: return now.heat;
            case 4: return now.cloth;
            case 5: return now.burstSet;
            case 6: return now.onSet;
            case 7: return now.stirredSet;
            case 8: return acts.left();
            case 9: return tape.size();
            default: return BAD;
        }
    }

    public int status() {
        return latestFinding;
    }

    private int found(int finding) {
        latestFinding = finding;
        return FINDING - finding;
    }

    private int unfound(int answer) {
        latestFinding = 0;
        return answer;
    }

    private static boolean isBit(int v) {
        return v == 0 || v == 1;
    }

    private static boolean isSpan(int n) {
        return n >= 1 && n <= LONGEST;
    }

    /** Rows 0 to 7: missing, or of a lane with items. */
    private static final class Rows {
        static final int MOST_ITEMS = 40;
        private static final int ROWS = 8, LANES = 3, MISSING = -1;

        private final int[] lanes = new int[ROWS];
        private final int[] lengths = new int[ROWS];
        private final int[] items = new int[ROWS * MOST_ITEMS];

        Rows() {
            for (int row = 0; row < ROWS; row++) {
                lanes[row] = MISSING;
            }
        }

        static boolean isRow(int row) {
            return row >= 0 && row < ROWS;
        }

        static boolean isLane(int lane) {
            return lane >= 0 && lane < LANES;
        }

        boolean isMissing(int row) {
            return lanes[row] == MISSING;
        }

        boolean haveOneLane(int a, int b) {
            return lanes[a] == lanes[b];
        }

        /** Whether n items from i on are all there; the difference cannot wrap around, as a sum could. */
        boolean hasRun(int row, int i, int n) {
            return i >= 0 && n >= 0 && i <= lengths[row] - n;
        }

        int held() {
            int held = 0;
            for (int row = 0; row < ROWS; row++) {
                if (!isMissing(row)) {
                    held++;
                }
            }
            return held;
        }

        void make(int row, int lane, int n) {
            lanes[row] = lane;
            lengths[row] = n;
            for (int k = startOf(row); k < startOf(row) + n; k++) {
                items[k] = 0;
            }
        }

        int put(int row, int i, int v) {
            int cut = cutTo(lanes[row], v);
            items[startOf(row) + i] = cut;
            return cut;
        }

        int item(int row, int i) {
            return items[startOf(row) + i];
        }

        void move(int a, int i, int b, int j, int n) {
            System.arraycopy(items, startOf(a) + i, items, startOf(b) + j, n);
        }

        int forget(int row) {
            lanes[row] = MISSING;
            return lengths[row];
        }

        private static int startOf(int row) {
            return row * MOST_ITEMS;
        }

        private static int cutTo(int lane, int v) {
            switch (lane) {
                case 0: return (byte) v;
                case 1: return (short) v;
                default: return v;
            }
        }
    }

    /** The tape, and the reading of it: the law and each basin are a letter and a pair of numbers. */
    private static final class Tape {
        private static final int ROOM = 90, END = -1, NO_SORT = 0;
        private static final int OUT_OF_PLACE = 1, OUT_OF_RANGE = 2, OUT_OF_ROOM = 3;

        private final int[] bytes = new int[ROOM];
        private int length;
        private int at;
        private int number;
        private int firstNumber;
        private int fault;
        private int faultPlace;

        int size() {
            return length;
        }

        int latestFault() {
            return fault;
        }

        int faultPlace() {
            return faultPlace;
        }

        boolean append(int letter) {
            if (length >= ROOM) {
                return false;
            }
            bytes[length] = letter;
            length++;
            return true;
        }

        /** Empties the tape into a hob; false at the first token that has a fault. */
        boolean readInto(Hob hob) {
            at = 0;
            hob.clear();
            boolean good = readLaw(hob) && readBasin(hob);
            for (int more = 0; good && at < length && more < ROOM; more++) {
                good = readBasin(hob);
            }
            length = 0;
            return good;
        }

        private boolean readLaw(Hob hob) {
            if (byteHere() != 'k') {
                return faultHere(OUT_OF_PLACE);
            }
            at++;
            if (!readPair(Hob.MOST_HEAT, Hob.LEAST_CLOTH, Hob.MOST_CLOTH)) {
                return false;
            }
            hob.heat = firstNumber;
            hob.cloth = number;
            return true;
        }

        private boolean readBasin(Hob hob) {
            int kind = sortHere();
            if (kind == NO_SORT) {
                return faultHere(OUT_OF_PLACE);
            }
            if (hob.size >= Hob.MOST_BASINS) {
                return faultHere(OUT_OF_ROOM);
            }
            at++;
            if (!readPair(Hob.MOST_PLUMS, 0, Hob.MOST_SWELL_TOLD)) {
                return false;
            }
            hob.add(kind, firstNumber, number);
            return true;
        }

        /** A number from 0 on, a comma, a number, a semicolon. */
        private boolean readPair(int firstMost, int secondLeast, int secondMost) {
            if (!readNumber(0, firstMost)) {
                return false;
            }
            firstNumber = number;
            return readSign(',') && readNumber(secondLeast, secondMost) && readSign(';');
        }

        private boolean readNumber(int least, int most) {
            int figures = figuresHere();
            if (figures < 1 || figures > 2) {
                return faultHere(OUT_OF_PLACE);
            }
            number = 0;
            for (int k = at; k < at + figures; k++) {
                number = 10 * number + bytes[k] - '0';
            }
            if (number < least || number > most) {
                return faultHere(OUT_OF_RANGE);
            }
            at += figures;
            return true;
        }

        private boolean readSign(int sign) {
            if (byteHere() != sign) {
                return faultHere(OUT_OF_PLACE);
            }
            at++;
            return true;
        }

        private int byteHere() {
            return at < length ? bytes[at] : END;
        }

        private int figuresHere() {
            int end = at;
            while (end < length && bytes[end] >= '0' && bytes[end] <= '9') {
                end++;
            }
            return end - at;
        }

        private int sortHere() {
            switch (byteHere()) {
                case 'p': return Hob.PLAIN;
                case 's': return Hob.SPOTTED;
                case 'l': return Hob.LIGHT;
                case 'b': return Hob.BLACK;
                case 'r': return Hob.BRANDY;
                default: return NO_SORT;
            }
        }

        private boolean faultHere(int number) {
            fault = number;
            faultPlace = at;
            return false;
        }
    }

    /** The basins of a hob as they stand; without a basin it is none. */
    private static final class Hob {
        static final int MOST_BASINS = 7, MOST_PLUMS = 20, MOST_HEAT = 9, MOST_SWELL_TOLD = 30;
        static final int LEAST_CLOTH = 5, MOST_CLOTH = 60;
        static final int PLAIN = 1, SPOTTED = 2, LIGHT = 3, BLACK = 4, BRANDY = 5;
        static final int WIDTH = 4 * MOST_BASINS + 7;
        private static final int MOST_SWELL = 99, PUSH = 3, STIR = 2;

        private final int[] kinds = new int[MOST_BASINS];
        private final int[] plums = new int[MOST_BASINS];
        private final int[] swells = new int[MOST_BASINS];
        private final int[] places = new int[MOST_BASINS];
        private int size;
        private int heat;
        private int cloth;
        private int hour;
        private int onSet;
        private int burstSet;
        private int stirredSet;

        boolean isNone() {
            return size == 0;
        }

        boolean has(int basin) {
            return basin >= 0 && basin < size;
        }

        boolean isOn(int b) {
            return (onSet >> b & 1) == 1;
        }

        boolean isBurst(int b) {
            return (burstSet >> b & 1) == 1;
        }

        private boolean isStirred(int b) {
            return (stirredSet >> b & 1) == 1;
        }

        void clear() {
            size = 0;
            heat = 0;
            cloth = 0;
            hour = 0;
            onSet = 0;
            burstSet = 0;
            stirredSet = 0;
        }

        void add(int kind, int plumsIn, int swell) {
            if (size >= MOST_BASINS) {
                return;
            }
            kinds[size] = kind;
            plums[size] = plumsIn;
            swells[size] = swell;
            places[size] = size;
            onSet |= 1 << size;
            size++;
        }

        void takeFrom(Hob other) {
            System.arraycopy(other.kinds, 0, kinds, 0, MOST_BASINS);
            System.arraycopy(other.plums, 0, plums, 0, MOST_BASINS);
            System.arraycopy(other.swells, 0, swells, 0, MOST_BASINS);
            System.arraycopy(other.places, 0, places, 0, MOST_BASINS);
            size = other.size;
            heat = other.heat;
            cloth = other.cloth;
            hour = other.hour;
            onSet = other.onSet;
            burstSet = other.burstSet;
            stirredSet = other.stirredSet;
        }

        /** Writes all of it into WIDTH cells; readFrom takes it from there again. */
        void writeTo(int[] cells, int start) {
            int at = start;
            System.arraycopy(kinds, 0, cells, at, MOST_BASINS);
            at += MOST_BASINS;
            System.arraycopy(plums, 0, cells, at, MOST_BASINS);
            at += MOST_BASINS;
            System.arraycopy(swells, 0, cells, at, MOST_BASINS);
            at += MOST_BASINS;
            System.arraycopy(places, 0, cells, at, MOST_BASINS);
            at += MOST_BASINS;
            cells[at] = size;
            cells[at + 1] = heat;
            cells[at + 2] = cloth;
            cells[at + 3] = hour;
            cells[at + 4] = onSet;
            cells[at + 5] = burstSet;
            cells[at + 6] = stirredSet;
        }

        void readFrom(int[] cells, int start) {
            int at = start;
            System.arraycopy(cells, at, kinds, 0, MOST_BASINS);
            at += MOST_BASINS;
            System.arraycopy(cells, at, plums, 0, MOST_BASINS);
            at += MOST_BASINS;
            System.arraycopy(cells, at, swells, 0, MOST_BASINS);
            at += MOST_BASINS;
            System.arraycopy(cells, at, places, 0, MOST_BASINS);
            at += MOST_BASINS;
            size = cells[at];
            heat = cells[at + 1];
            cloth = cells[at + 2];
            hour = cells[at + 3];
            onSet = cells[at + 4];
            burstSet = cells[at + 5];
            stirredSet = cells[at + 6];
        }

        int glowOf(int b) {
            return isOn(b) ? Math.max(0, heat - places[b]) : 0;
        }

        /** By how much a basin swells in this hour, ahead of any round. */
        int growthOf(int b) {
            if (isBurst(b)) {
                return 0;
            }
            int glow = glowOf(b);
            switch (kinds[b]) {
                case SPOTTED: return glow > 0 ? glow + plums[b] / 4 : 0;
                case LIGHT: return glow / 2;
                case BLACK: return isStirred(b) ? glow : 0;
                case BRANDY: return isStirred(b) ? 2 * glow : 0;
                default: return glow;
            }
        }

        /** One hour; false if none grew in it: then none will, as none is stirred any more, and none will burst. */
        boolean boil() {
            boolean grew = false;
            for (int b = 0; b < size; b++) {
                int growth = growthOf(b);
                if (growth > 0) {
                    raise(b, growth);
                    grew = true;
                }
            }
            stirredSet = 0;
            int bursting = aboveCloth();
            for (int round = 0; bursting != 0 && round < MOST_BASINS; round++) {
                burstSet |= bursting;
                pushNeighbours(bursting);
                bursting = aboveCloth();
            }
            hour++;
            return grew;
        }

        private int aboveCloth() {
            int above = 0;
            for (int b = 0; b < size; b++) {
                if (!isBurst(b) && swells[b] > cloth) {
                    above |= 1 << b;
                }
            }
            return above;
        }

        private void pushNeighbours(int bursting) {
            int burstPlaces = placesOf(bursting);
            for (int b = 0; b < size; b++) {
                if (!isBurst(b)) {
                    int own = 1 << places[b];
                    int beside = own << 1 | own >> 1;
                    raise(b, PUSH * Integer.bitCount(burstPlaces & beside));
                }
            }
        }

        private int placesOf(int basins) {
            int taken = 0;
            for (int b = 0; b < size; b++) {
                if ((basins >> b & 1) == 1) {
                    taken |= 1 << places[b];
                }
            }
            return taken;
        }

        private void raise(int b, int by) {
            swells[b] = Math.min(MOST_SWELL, swells[b] + by);
        }

        void stirOnce(int b) {
            swells[b] = Math.max(0, swells[b] - STIR);
            stirredSet |= 1 << b;
        }

        /** Takes a basin off, or puts it on if it was off. */
        void turn(int b) {
            onSet ^= 1 << b;
        }

        void exchange(int one, int other) {
            int place = places[one];
            places[one] = places[other];
            places[other] = place;
        }

        int swellTogether() {
            int sum = 0;
            for (int b = 0; b < size; b++) {
                if (!isBurst(b)) {
                    sum += swells[b];
                }
            }
            return sum;
        }

        int slicesOf(int basin, int n) {
            int all = plumsTogether();
            if (isBurst(basin) || plums[basin] == 0 || all == 0) {
                return 0;
            }
            int over = n;
            int sharersAhead = 0;
            for (int b = 0; b < size; b++) {
                if (!isBurst(b) && plums[b] > 0) {
                    over -= n * plums[b] / all;
                    if (b < basin) {
                        sharersAhead++;
                    }
                }
            }
            int share = n * plums[basin] / all;
            return sharersAhead < over ? share + 1 : share;
        }

        private int plumsTogether() {
            int sum = 0;
            for (int b = 0; b < size; b++) {
                if (!isBurst(b)) {
                    sum += plums[b];
                }
            }
            return sum;
        }
    }

    /** How the hob stood ahead of each act that can be undone, in a ring that forgets the oldest. */
    private static final class Acts {
        private static final int MOST = 24;

        private final int[] cells = new int[MOST * Hob.WIDTH];
        private int next;
        private int kept;

        void keep(Hob hob) {
            hob.writeTo(cells, next * Hob.WIDTH);
            next = (next + 1) % MOST;
            kept = Math.min(MOST, kept + 1);
        }

        boolean takeBack(Hob hob) {
            if (kept == 0) {
                return false;
            }
            next = (next + MOST - 1) % MOST;
            kept--;
            hob.readFrom(cells, next * Hob.WIDTH);
            return true;
        }

        void forgetAll() {
            kept = 0;
        }

        int left() {
            return kept;
        }
    }

    /** Images 0 and 1 of a hob. */
    private static final class Images {
        private final int[] cells = new int[2 * Hob.WIDTH];
        private int keptSet;

        void keep(int k, Hob hob) {
            hob.writeTo(cells, k * Hob.WIDTH);
            keptSet |= 1 << k;
        }

        boolean isKept(int k) {
            return (keptSet >> k & 1) == 1;
        }

        void showTo(int k, Hob hob) {
            hob.readFrom(cells, k * Hob.WIDTH);
        }
    }

    /** What would come: each answer boils a trial that begins as the hob stands now. */
    private static final class Foresight {
        static final int MOST_TOLD = 12;
        private static final int MOST_STIRS = 20, MOST_STEPS = 100;
        private static final int[] LEAST_TRIED = {1, 0, 0, 5, 5};
        private static final int[] MOST_TRIED = {5, 20, 9, 60, 60};
        private static final long FACTOR = 16807L, MODULUS = 2147483647L;

        private final Hob now;
        private final Hob trial = new Hob();
        private final int[] told = new int[MOST_TOLD];

        Foresight(Hob now) {
            this.now = now;
        }

        int swellBehind(int basin, int d) {
            beginTrial();
            boilTrial(d);
            return trial.swells[basin];
        }

        int burstBehind(int d) {
            beginTrial();
            boilTrial(d);
            return trial.burstSet;
        }

        int hoursTillBurst(int basin) {
            beginTrial();
            for (int d = 0; d <= FARTHEST; d++) {
                if (trial.isBurst(basin)) {
                    return d;
                }
                trial.boil();
            }
            return NONE;
        }

        int firstToBurst(int what) {
            beginTrial();
            for (int d = 1; d <= FARTHEST; d++) {
                trial.boil();
                int burstSince = trial.burstSet & ~now.burstSet;
                if (burstSince != 0) {
                    return what == 0 ? Integer.numberOfTrailingZeros(burstSince) : d;
                }
            }
            return NONE;
        }

        int fewestStirs(int basin, int n) {
            for (int stirs = 0; stirs <= MOST_STIRS; stirs++) {
                beginTrial();
                for (int s = 0; s < stirs; s++) {
                    trial.stirOnce(basin);
                }
                if (!trialBursts(basin, n)) {
                    return stirs;
                }
            }
            return NONE;
        }

        /** The set itself; those that are off and not in it stay off. */
        int fewestOff(int n) {
            int best = NONE;
            int fewest = now.size + 1;
            for (int set = 0; set < 1 << now.size; set++) {
                if (Integer.bitCount(set) < fewest) {
                    beginTrial();
                    trial.onSet &= ~set;
                    if (trialBurstsNone(n)) {
                        best = set;
                        fewest = Integer.bitCount(set);
                    }
                }
            }
            return best;
        }

        int bestChange(int n, int what) {
            int pair = NONE;
            int fewest = NONE;
            for (int a = 0; a < now.size; a++) {
                for (int b = a + 1; b < now.size; b++) {
                    beginTrial();
                    trial.exchange(a, b);
                    boilTrial(n);
                    int burst = Integer.bitCount(trial.burstSet);
                    if (fewest == NONE || burst < fewest) {
                        fewest = burst;
                        pair = 10 * a + b;
                    }
                }
            }
            return what == 0 ? pair : fewest;
        }

        int greatestHeat(int n) {
            for (int heat = Hob.MOST_HEAT; heat >= 0; heat--) {
                beginTrial();
                trial.heat = heat;
                if (trialBurstsNone(n)) {
                    return heat;
                }
            }
            return NONE;
        }

        /** By what is told of n hours: what is 0 kinds, 1 plums, 2 heats (bits), 3 how many cloths, 4 the least one. */
        int fitting(int basin, int n, int what) {
            int fitSet = 0;
            int many = 0;
            int least = NONE;
            for (int v = LEAST_TRIED[what]; v <= MOST_TRIED[what]; v++) {
                beginTrial();
                alterTrial(basin, what, v);
                if (trialIsAsTold(basin, n)) {
                    // Of cloths, which run past 31, the set is never answered.
                    fitSet |= 1 << v;
                    least = many == 0 ? v : least;
                    many++;
                }
            }
            switch (what) {
                case 3: return many;
                case 4: return least;
                default: return fitSet;
            }
        }

        private void alterTrial(int basin, int what, int v) {
            switch (what) {
                case 0: trial.kinds[basin] = v; break;
                case 1: trial.plums[basin] = v; break;
                case 2: trial.heat = v; break;
                default: trial.cloth = v;
            }
        }

        private boolean trialIsAsTold(int basin, int n) {
            for (int h = 0; h < n; h++) {
                trial.boil();
                if (trial.swells[basin] != told[h]) {
                    return false;
                }
            }
            return true;
        }

        /** Above (what is 0) and below (1) of the chance, in lowest terms; each set of basins had by mice is tried. */
        int chanceWithMice(int basin, int n, int c, int what) {
            int above = 0;
            int below = 0;
            for (int had = 0; had < 1 << now.size; had++) {
                int weight = weightOf(had, c);
                below += weight;
                if (weight > 0 && burstsWithMice(basin, n, had)) {
                    above += weight;
                }
            }
            int divisor = Math.max(1, greatestDivisor(above, below));
            return (what == 0 ? above : below) / divisor;
        }

        private int weightOf(int had, int c) {
            int weight = 1;
            for (int b = 0; b < now.size; b++) {
                weight *= (had >> b & 1) == 1 ? c : 10 - c;
            }
            return weight;
        }

        private boolean burstsWithMice(int basin, int n, int had) {
            beginTrial();
            trial.onSet &= ~had;
            for (int b = 0; b < trial.size; b++) {
                if ((had >> b & 1) == 1) {
                    trial.swells[b] = 0;
                }
            }
            return trialBursts(basin, n);
        }

        private static int greatestDivisor(int one, int other) {
            int a = one;
            int b = other;
            for (int step = 0; b > 0 && step < MOST_STEPS; step++) {
                int rest = a % b;
                a = b;
                b = rest;
            }
            return a;
        }

        int century(int n, int seed, int what) {
            beginTrial();
            long x = seed;
            for (int h = 0; h < n; h++) {
                x = x * FACTOR % MODULUS;
                trial.heat = (int) (x % 10);
                meddle(x);
                trial.boil();
            }
            return what == 0 ? Integer.bitCount(trial.burstSet) : trial.swellTogether();
        }

        private void meddle(long x) {
            if (trial.isNone()) {
                return;
            }
            int b = (int) (x % trial.size);
            if (x % 2 == 0 && !trial.isBurst(b)) {
                trial.stirOnce(b);
            } else {
                trial.turn(b);
            }
        }

        private void beginTrial() {
            trial.takeFrom(now);
        }

        private void boilTrial(int n) {
            boolean grew = true;
            for (int h = 0; h < n && grew; h++) {
                grew = trial.boil();
            }
        }

        private boolean trialBursts(int basin, int n) {
            boolean grew = true;
            for (int h = 0; h < n && grew && !trial.isBurst(basin); h++) {
                grew = trial.boil();
            }
            return trial.isBurst(basin);
        }

        private boolean trialBurstsNone(int n) {
            boolean grew = true;
            for (int h = 0; h < n && grew && trial.burstSet == now.burstSet; h++) {
                grew = trial.boil();
            }
            return trial.burstSet == now.burstSet;
        }
    }

    /** The asks SIZE and MARK of the basins, and the trace of the bodies that began. */
    private static final class Asks {
        private static final int SIZE = 0, MARK = 1, MOST_TRACED = 16, DEEPEST = 16;
        private static final int[] PARENT = {-1, 0, 1, 1, 0, 4};
        private static final int[] SIZE_BODY = {10, 11, 12, 11, 13, 14};
        private static final int[] MARK_BODY = {20, 21, 24, 22, 23, 23};

        private final Hob now;
        private final int[] bodies = new int[MOST_TRACED];
        private int begun;

        Asks(Hob now) {
            this.now = now;
        }

        static boolean isA(int kind, int wanted) {
            int k = kind;
            for (int up = 0; up < PARENT.length && k >= 0 && k < PARENT.length; up++) {
                if (k == wanted) {
                    return true;
                }
                k = PARENT[k];
            }
            return false;
        }

        int answerAnew(int basin, int what) {
            begun = 0;
            return begin(bodyOf(what, basin), basin, 0);
        }

        int traced(int i) {
            return i >= 0 && i < begun ? bodies[i] : NONE;
        }

        private int bodyOf(int what, int basin) {
            int kind = now.kinds[basin];
            return what == SIZE ? SIZE_BODY[kind] : MARK_BODY[kind];
        }

        /** No body of the document nests deeper than six; the depth is there so that this can be seen. */
        private int begin(int body, int basin, int depth) {
            if (depth > DEEPEST) {
                return 0;
            }
            leave(body);
            int deeper = depth + 1;
            switch (body) {
                case 10: return now.plums[basin];
                case 11: return begin(10, basin, deeper) + begin(bodyOf(MARK, basin), basin, deeper);
                case 12: return -begin(11, basin, deeper);
                case 13: return begin(10, basin, deeper) - 100;
                case 14: return 2 * begin(13, basin, deeper);
                case 20: return basin;
                case 21: return begin(20, basin, deeper) + now.swells[basin];
                case 22: return begin(21, basin, deeper) - 1000;
                case 23: return begin(20, basin, deeper) - begin(bodyOf(SIZE, basin), basin, deeper);
                case 24: return 2 * begin(21, basin, deeper);
                default: return 0;
            }
        }

        private void leave(int body) {
            if (begun < MOST_TRACED) {
                bodies[begun] = body;
                begun++;
            }
        }
    }
}
