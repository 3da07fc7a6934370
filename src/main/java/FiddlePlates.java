import java.util.Arrays;

/**
 * Plates of a fiddle (a toy), as ../shared/DOC.md promises them.
 *
 * <p>All rows are made with the object and used again: no call makes an object.
 */
public final class FiddlePlates {
    public static final int NONE = -1, BAD = -2, NOT = -3, FULL = -4;

    private static final int STRIPS = 4;
    private static final int TONES = 4;
    private static final int THICKEST = 9;
    private static final int STIFFEST = 9;
    private static final int HEAVIEST = 9;
    private static final int MOST_PLATES = 4;
    private static final int MOST_TAPS = 12;
    private static final int MOST_LOGGED = 20;
    private static final int MOST_NUMBER = 500;
    private static final int MOST_OFF = 200;

    /**
     * Every value is less than twice this: a row of the MATRIX, all taken as above 0 and by the
     * STRIP's THICKNESS t, comes to 4 * (9 * t * t * t / 8 + 1) / t at most, which is below 365.
     */
    private static final int HALF_OF_VALUES = 256;

    private final Plate[] plates = new Plate[MOST_PLATES];
    private final House house = new House();
    private final Aims aims = new Aims();
    private final Planner planner = new Planner();
    private final Heaps heaps = new Heaps();
    private final int[] valuesOfOne = new int[STIFFEST + 1];
    private final int[] valuesOfOther = new int[STIFFEST + 1];
    private int plateCount = 0;
    private int leastThickness = 2;
    private int offAtMost = 5;

    public FiddlePlates() {
        for (int i = 0; i < MOST_PLATES; i++) {
            plates[i] = new Plate();
        }
    }

    // ---- plates

    public int plate(int a, int b, int c, int d) {
        if (!isThickness(a) || !isThickness(b) || !isThickness(c) || !isThickness(d)) {
            return BAD;
        }
        if (plateCount >= MOST_PLATES) {
            return FULL;
        }
        plates[plateCount].lay(a, b, c, d);
        plateCount++;
        return plateCount - 1;
    }

    public int thick(int plate, int strip) {
        if (!isPlate(plate) || !isStrip(strip)) {
            return BAD;
        }
        return plates[plate].strips[strip];
    }

    public int least(int v) {
        if (!isThickness(v)) {
            return BAD;
        }
        int was = leastThickness;
        leastThickness = v;
        planner.forget();
        return was;
    }

    public int shave(int plate, int strip) {
        if (!isPlate(plate) || !isStrip(strip)) {
            return BAD;
        }
        Plate shaved = plates[plate];
        if (shaved.strips[strip] <= leastThickness) {
            return NOT;
        }
        if (shaved.logged >= MOST_LOGGED) {
            return FULL;
        }
        shaved.takeOff(strip);
        planner.forget();
        return shaved.strips[strip];
    }

    public int undo(int plate) {
        if (!isPlate(plate)) {
            return BAD;
        }
        if (plates[plate].logged <= 0) {
            return NOT;
        }
        planner.forget();
        return plates[plate].putBack();
    }

    public int mirror(int plate) {
        if (!isPlate(plate)) {
            return BAD;
        }
        plates[plate].turn();
        planner.forget();
        return 1;
    }

    // ---- tones

    public int tone(int plate, int s, int w, int k) {
        if (!isPlate(plate) || !isWood(s, w) || !isTone(k)) {
            return BAD;
        }
        return Signs.byWeight(Signs.wholeValue(plates[plate].strips, s, k), w);
    }

    public int below(int plate, int s, int w, int x) {
        if (!isPlate(plate) || !isWood(s, w) || !isNumber(x)) {
            return BAD;
        }
        return Signs.valuesBelow(plates[plate].strips, s, x * w);
    }

    public int bond(int plate, int s, int i) {
        if (!isPlate(plate) || s < 1 || s > STIFFEST || i < 0 || i > STRIPS) {
            return BAD;
        }
        return Signs.bondAt(plates[plate].strips, s, i);
    }

    // ---- taps, woods

    public int tap(int plate, int k, int low, int high) {
        if (!isPlate(plate) || !isTone(k) || !isSpan(low, high)) {
            return BAD;
        }
        if (house.tapCount >= MOST_TAPS) {
            return FULL;
        }
        house.addTap(plates[plate].strips, k, low, high);
        planner.forget();
        return house.tapCount - 1;
    }

    public int untap(int tap) {
        if (tap < 0 || tap >= house.tapCount) {
            return BAD;
        }
        house.dropTap(tap);
        planner.forget();
        return 1;
    }

    public int woods() {
        return house.left;
    }

    public int wood(int i, int what) {
        if (i < 0 || i >= house.left || !isOneOfTwo(what)) {
            return BAD;
        }
        return what == 0 ? house.stiffness[i] : house.weight[i];
    }

    public int span(int plate, int k, int way) {
        if (!isPlate(plate) || !isTone(k) || !isOneOfTwo(way)) {
            return BAD;
        }
        if (house.left == 0) {
            return NOT;
        }
        Signs.fillWholeValues(valuesOfOne, plates[plate].strips, k);
        return way == 0 ? house.leastTone(valuesOfOne) : house.greatestTone(valuesOfOne);
    }

    public int next(int plate, int what) {
        if (!isPlate(plate) || !isOneOfTwo(what)) {
            return BAD;
        }
        if (house.left == 0) {
            return NOT;
        }
        int best = 0;
        int leastHeap = house.left + 1;
        for (int k = 0; k < TONES; k++) {
            Signs.fillWholeValues(valuesOfOne, plates[plate].strips, k);
            int heap = heaps.greatest(house, valuesOfOne);
            if (heap < leastHeap) {
                leastHeap = heap;
                best = k;
            }
        }
        return what == 0 ? best : leastHeap;
    }

    // ---- aims, plans, pairs

    public int aim(int k, int from, int to) {
        if (!isTone(k) || !isSpan(from, to)) {
            return BAD;
        }
        aims.put(k, from, to);
        planner.forget();
        return 1;
    }

    public int aimless() {
        int were = aims.spans();
        aims.clear();
        planner.forget();
        return were;
    }

    public int plan(int plate) {
        if (!isPlate(plate)) {
            return BAD;
        }
        if (house.left == 0) {
            return NOT;
        }
        makePlan(plate);
        return planner.shavings;
    }

    public int planned(int plate, int i) {
        if (!isPlate(plate) || i < 0) {
            return BAD;
        }
        if (house.left == 0) {
            return NOT;
        }
        makePlan(plate);
        return planner.stripOf(i);
    }

    public int carve(int plate) {
        if (!isPlate(plate)) {
            return BAD;
        }
        if (house.left == 0) {
            return NOT;
        }
        makePlan(plate);
        int made = planner.shavings;
        if (made == NONE) {
            return NOT;
        }
        if (plates[plate].logged + made > MOST_LOGGED) {
            return FULL;
        }
        plates[plate].takeOffAll(planner.taken);
        planner.forget();
        return made;
    }

    public int off(int v) {
        if (v < 0 || v > MOST_OFF) {
            return BAD;
        }
        int was = offAtMost;
        offAtMost = v;
        return was;
    }

    public int even(int a, int b) {
        if (!isPlate(a) || !isPlate(b)) {
            return BAD;
        }
        if (house.left == 0) {
            return NOT;
        }
        Signs.fillWholeValues(valuesOfOne, plates[a].strips, 0);
        Signs.fillWholeValues(valuesOfOther, plates[b].strips, 0);
        return house.farthest(valuesOfOne, valuesOfOther) <= offAtMost ? 1 : 0;
    }

    public int count(int what) {
        switch (what) {
            case 0:
                return plateCount;
            case 1:
                return house.tapCount;
            case 2:
                return aims.spans();
            case 3:
                return shavingsInLogs();
            default:
                return BAD;
        }
    }

    private int shavingsInLogs() {
        int all = 0;
        for (int i = 0; i < plateCount; i++) {
            all += plates[i].logged;
        }
        return all;
    }

    private void makePlan(int plate) {
        if (planner.plate != plate) {
            planner.search(plates[plate].strips, leastThickness, house, aims);
            planner.plate = plate;
        }
    }

    private boolean isPlate(int plate) {
        return plate >= 0 && plate < plateCount;
    }

    private static boolean isStrip(int strip) {
        return strip >= 0 && strip < STRIPS;
    }

    private static boolean isTone(int k) {
        return k >= 0 && k < TONES;
    }

    private static boolean isThickness(int v) {
        return v >= 1 && v <= THICKEST;
    }

    private static boolean isWood(int s, int w) {
        return s >= 1 && s <= STIFFEST && w >= 1 && w <= HEAVIEST;
    }

    private static boolean isNumber(int x) {
        return x >= 0 && x <= MOST_NUMBER;
    }

    private static boolean isSpan(int from, int to) {
        return isNumber(from) && isNumber(to) && from <= to;
    }

    private static boolean isOneOfTwo(int what) {
        return what == 0 || what == 1;
    }

    /** The STRIPS of a PLATE and its LOG. */
    private static final class Plate {
        final int[] strips = new int[STRIPS];
        final int[] log = new int[MOST_LOGGED];
        int logged = 0;

        void lay(int a, int b, int c, int d) {
            strips[0] = a;
            strips[1] = b;
            strips[2] = c;
            strips[3] = d;
        }

        void takeOff(int strip) {
            if (isStrip(strip) && logged < MOST_LOGGED) {
                strips[strip]--;
                log[logged] = strip;
                logged++;
            }
        }

        void takeOffAll(int[] taken) {
            for (int strip = 0; strip < STRIPS; strip++) {
                for (int i = 0; i < taken[strip]; i++) {
                    takeOff(strip);
                }
            }
        }

        int putBack() {
            if (logged <= 0) {
                return NOT;
            }
            logged--;
            int strip = log[logged];
            strips[strip]++;
            return strip;
        }

        void turn() {
            lay(strips[3], strips[2], strips[1], strips[0]);
            logged = 0;
        }
    }

    /**
     * The values of a PLATE, counted by signs.
     *
     * <p>MASSES are w times those of WEIGHT 1, so the values of (s, w) are those of (s, 1) by w.
     * Of a value cut and then divided by w and cut again the outcome is the same as of one cut
     * alone; so the whole values of (s, 1) tell all TONES of all WOODS.
     */
    private static final class Signs {
        static int bondAt(int[] strips, int s, int i) {
            if (i <= 0 || i >= STRIPS) {
                int rim = i <= 0 ? strips[0] : strips[STRIPS - 1];
                return s * rim * rim * rim / 32 + 1;
            }
            int lesser = strips[i - 1] < strips[i] ? strips[i - 1] : strips[i];
            return s * lesser * lesser * lesser / 8 + 1;
        }

        /**
         * How many values of WOOD (s, 1) are less than y: the changes of sign along the leading
         * minors of MATRIX less y times MASSES. A minor of 0 is passed over: no BOND is 0, so
         * both its neighbours have unlike signs; and as the last one it tells a value that is y
         * itself. Within the bounds of all values every minor stays within a long.
         */
        static int valuesBelow(int[] strips, int s, int y) {
            if (y <= 0) {
                return 0;
            }
            if (y >= 2 * HALF_OF_VALUES) {
                return TONES;
            }
            int changes = 0;
            boolean negative = false;
            long before = 0;
            long minor = 1;
            long bond = bondAt(strips, s, 0);
            for (int i = 0; i < STRIPS; i++) {
                long following = bondAt(strips, s, i + 1);
                long diagonal = bond + following - (long) y * strips[i];
                long grown = diagonal * minor - bond * bond * before;
                before = minor;
                minor = grown;
                bond = following;
                if (minor != 0 && (minor < 0) != negative) {
                    negative = !negative;
                    changes++;
                }
            }
            return changes;
        }

        /** The k-th value of WOOD (s, 1), cut: the greatest whole number with at most k below it. */
        static int wholeValue(int[] strips, int s, int k) {
            int whole = 0;
            for (int step = HALF_OF_VALUES; step > 0; step /= 2) {
                if (valuesBelow(strips, s, whole + step) <= k) {
                    whole += step;
                }
            }
            return whole;
        }

        static void fillWholeValues(int[] values, int[] strips, int k) {
            for (int s = 1; s <= STIFFEST; s++) {
                values[s] = wholeValue(strips, s, k);
            }
        }

        static int byWeight(int value, int w) {
            return w > 0 ? value / w : value;
        }
    }

    /** One TAP: what it heard, and the whole values of its PLATE as it was then. */
    private static final class Tap {
        final int[] values = new int[STIFFEST + 1];
        int low = 0;
        int high = 0;

        boolean fits(int s, int w) {
            int heard = Signs.byWeight(values[s], w);
            return low <= heard && heard <= high;
        }
    }

    /** The TAPS, and the WOODS that they leave. */
    private static final class House {
        final Tap[] taps = new Tap[MOST_TAPS];
        int tapCount = 0;
        final int[] stiffness = new int[STIFFEST * HEAVIEST];
        final int[] weight = new int[STIFFEST * HEAVIEST];
        int left = 0;

        /*
         * More STIFFNESS never makes a value less, and more WEIGHT never makes one greater. So
         * the least TONE of all WOODS LEFT is one of a heaviest WOOD such that none as heavy is
         * less stiff; and the greatest is one of a lightest WOOD such that none as light is
         * stiffer. These are their WEIGHTS by STIFFNESS, 0 where there is no such WOOD.
         */
        final int[] heavy = new int[STIFFEST + 1];
        final int[] light = new int[STIFFEST + 1];

        House() {
            for (int i = 0; i < MOST_TAPS; i++) {
                taps[i] = new Tap();
            }
            sift();
        }

        void addTap(int[] strips, int k, int low, int high) {
            if (tapCount < MOST_TAPS) {
                Tap added = taps[tapCount];
                Signs.fillWholeValues(added.values, strips, k);
                added.low = low;
                added.high = high;
                tapCount++;
                sift();
            }
        }

        void dropTap(int tap) {
            if (tap >= 0 && tap < tapCount) {
                Tap dropped = taps[tap];
                for (int i = tap; i + 1 < tapCount; i++) {
                    taps[i] = taps[i + 1];
                }
                tapCount--;
                // its rows serve the next TAP
                taps[tapCount] = dropped;
                sift();
            }
        }

        private void sift() {
            left = 0;
            for (int s = 1; s <= STIFFEST; s++) {
                heavy[s] = 0;
                light[s] = 0;
                for (int w = 1; w <= HEAVIEST; w++) {
                    if (fitsAllTaps(s, w)) {
                        keep(s, w);
                    }
                }
            }
            dropInnerWoods();
        }

        private boolean fitsAllTaps(int s, int w) {
            for (int i = 0; i < tapCount; i++) {
                if (!taps[i].fits(s, w)) {
                    return false;
                }
            }
            return true;
        }

        private void keep(int s, int w) {
            if (left < stiffness.length) {
                stiffness[left] = s;
                weight[left] = w;
                left++;
                heavy[s] = w;
                if (light[s] == 0) {
                    light[s] = w;
                }
            }
        }

        private void dropInnerWoods() {
            int heaviest = 0;
            for (int s = 1; s <= STIFFEST; s++) {
                if (heavy[s] <= heaviest) {
                    heavy[s] = 0;
                } else {
                    heaviest = heavy[s];
                }
            }
            int lightest = HEAVIEST + 1;
            for (int s = STIFFEST; s >= 1; s--) {
                if (light[s] >= lightest) {
                    light[s] = 0;
                } else if (light[s] > 0) {
                    lightest = light[s];
                }
            }
        }

        int leastTone(int[] values) {
            int found = 2 * HALF_OF_VALUES;
            for (int s = 1; s <= STIFFEST; s++) {
                if (heavy[s] > 0) {
                    found = Math.min(found, Signs.byWeight(values[s], heavy[s]));
                }
            }
            return found;
        }

        int greatestTone(int[] values) {
            int found = 0;
            for (int s = 1; s <= STIFFEST; s++) {
                if (light[s] > 0) {
                    found = Math.max(found, Signs.byWeight(values[s], light[s]));
                }
            }
            return found;
        }

        int toneOfLeft(int i, int[] values) {
            return Signs.byWeight(values[stiffness[i]], weight[i]);
        }

        int farthest(int[] values, int[] others) {
            int found = 0;
            for (int i = 0; i < left; i++) {
                int apart = Math.abs(toneOfLeft(i, values) - toneOfLeft(i, others));
                found = Math.max(found, apart);
            }
            return found;
        }
    }

    /** How many WOODS LEFT share a TONE. */
    private static final class Heaps {
        final int[] sizes = new int[2 * HALF_OF_VALUES];

        int greatest(House house, int[] values) {
            Arrays.fill(sizes, 0);
            int found = 0;
            for (int i = 0; i < house.left; i++) {
                int tone = house.toneOfLeft(i, values);
                if (tone >= 0 && tone < sizes.length) {
                    sizes[tone]++;
                    found = Math.max(found, sizes[tone]);
                }
            }
            return found;
        }
    }

    /** The spans of an AIM. */
    private static final class Aims {
        final boolean[] set = new boolean[TONES];
        final int[] from = new int[TONES];
        final int[] to = new int[TONES];

        void put(int k, int low, int high) {
            if (isTone(k)) {
                set[k] = true;
                from[k] = low;
                to[k] = high;
            }
        }

        void clear() {
            for (int k = 0; k < TONES; k++) {
                set[k] = false;
            }
        }

        int spans() {
            int all = 0;
            for (int k = 0; k < TONES; k++) {
                if (set[k]) {
                    all++;
                }
            }
            return all;
        }

        /** Asks by counts alone, as finding a TONE takes nine of them. */
        boolean metBy(int[] strips, House house) {
            for (int k = 0; k < TONES; k++) {
                for (int s = 1; set[k] && s <= STIFFEST; s++) {
                    int heavy = house.heavy[s];
                    if (heavy > 0 && Signs.valuesBelow(strips, s, from[k] * heavy) > k) {
                        return false;
                    }
                    int light = house.light[s];
                    if (light > 0 && Signs.valuesBelow(strips, s, (to[k] + 1) * light) <= k) {
                        return false;
                    }
                }
            }
            return true;
        }
    }

    /** THE PLAN of one PLATE, kept until something that it hangs on changes. */
    private static final class Planner {
        final int[] taken = new int[STRIPS];
        final int[] room = new int[STRIPS];
        final int[] end = new int[STRIPS];
        int shavings = NONE;
        int plate = NONE;

        void forget() {
            plate = NONE;
        }

        void search(int[] strips, int leastThickness, House house, Aims aims) {
            int all = 0;
            for (int i = 0; i < STRIPS; i++) {
                room[i] = Math.max(0, strips[i] - leastThickness);
                all += room[i];
            }
            shavings = NONE;
            for (int n = 0; n <= all && shavings == NONE; n++) {
                if (foundOf(n, strips, house, aims)) {
                    shavings = n;
                }
            }
        }

        /** Tries the rows of n SHAVINGS, those that leave STRIP 0, then 1, then 2 thickest first. */
        private boolean foundOf(int n, int[] strips, House house, Aims aims) {
            for (int a = 0; a <= Math.min(n, room[0]); a++) {
                for (int b = 0; b <= Math.min(n - a, room[1]); b++) {
                    int rest = n - a - b;
                    for (int c = Math.max(0, rest - room[3]); c <= Math.min(rest, room[2]); c++) {
                        take(strips, a, b, c, rest - c);
                        if (aims.metBy(end, house)) {
                            return true;
                        }
                    }
                }
            }
            return false;
        }

        private void take(int[] strips, int a, int b, int c, int d) {
            taken[0] = a;
            taken[1] = b;
            taken[2] = c;
            taken[3] = d;
            for (int i = 0; i < STRIPS; i++) {
                end[i] = strips[i] - taken[i];
            }
        }

        int stripOf(int shaving) {
            if (shavings == NONE) {
                return NONE;
            }
            int before = 0;
            for (int strip = 0; strip < STRIPS; strip++) {
                before += taken[strip];
                if (shaving < before) {
                    return strip;
                }
            }
            return NONE;
        }
    }
}
