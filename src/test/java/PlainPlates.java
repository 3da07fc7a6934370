import java.util.ArrayList;
import java.util.List;

/**
 * The document once more, as plainly as it goes, to hold FiddlePlates against.
 *
 * <p>It shares no way of counting with it: here the determinant is written out as a polynomial,
 * and the values above a number are counted by Descartes' rule, which is exact as all four are
 * real; every WOOD is asked, and every end that a PLATE can be shaved to.
 */
final class PlainPlates {
    static final int NONE = -1, BAD = -2, NOT = -3, FULL = -4;

    private static final short[] ALL_TONES = new short[6561 * 81 * 4];
    private static final boolean[] KNOWN = new boolean[6561 * 81];

    private final List<int[]> plates = new ArrayList<>();
    private final List<List<Integer>> logs = new ArrayList<>();
    private final List<int[]> tapPlates = new ArrayList<>();
    private final List<int[]> tapSpans = new ArrayList<>();
    private final int[][] aims = new int[4][];
    private int least = 2;
    private int off = 5;

    // ---- the sums

    static int bondOf(int[] t, int s, int i) {
        if (i == 0) return s * t[0] * t[0] * t[0] / 32 + 1;
        if (i == 4) return s * t[3] * t[3] * t[3] / 32 + 1;
        int lesser = t[i - 1] < t[i] ? t[i - 1] : t[i];
        return s * lesser * lesser * lesser / 8 + 1;
    }

    /** The determinant of MATRIX less x times MASSES: the number before x to the i-th at i. */
    static long[] determinant(int[] t, int s, int w) {
        long[][][] cells = new long[4][4][];
        for (int i = 0; i < 4; i++) {
            cells[i][i] = new long[] {bondOf(t, s, i) + bondOf(t, s, i + 1), -(long) w * t[i]};
            if (i < 3) {
                cells[i][i + 1] = new long[] {-bondOf(t, s, i + 1)};
                cells[i + 1][i] = cells[i][i + 1];
            }
        }
        return expand(cells, 0, 0);
    }

    private static long[] expand(long[][][] cells, int row, int used) {
        if (row == 4) return new long[] {1};
        long[] sum = new long[5];
        int sign = 1;
        for (int column = 0; column < 4; column++) {
            if ((used & 1 << column) != 0) continue;
            if (cells[row][column] != null) {
                long[] minor = expand(cells, row + 1, used | 1 << column);
                for (int i = 0; i < cells[row][column].length; i++) {
                    for (int j = 0; j < minor.length && i + j < 5; j++) {
                        sum[i + j] += sign * cells[row][column][i] * minor[j];
                    }
                }
            }
            sign = -sign;
        }
        return sum;
    }

    static int valuesBelow(long[] polynomial, int x) {
        long[] shifted = polynomial.clone();
        for (int i = 0; i < 4; i++) {
            for (int j = 3; j >= i; j--) {
                shifted[j] = Math.addExact(shifted[j], Math.multiplyExact(shifted[j + 1], (long) x));
            }
        }
        int atX = 0;
        while (shifted[atX] == 0) atX++;
        int above = 0;
        int sign = Long.signum(shifted[atX]);
        for (int i = atX + 1; i < 5; i++) {
            int its = Long.signum(shifted[i]);
            if (its != 0 && its != sign) {
                above++;
                sign = its;
            }
        }
        return 4 - atX - above;
    }

    static int toneOf(int[] t, int s, int w, int k) {
        int wood = (((t[0] - 1) * 9 + t[1] - 1) * 9 + t[2] - 1) * 9 + t[3] - 1;
        wood = (wood * 9 + s - 1) * 9 + w - 1;
        if (!KNOWN[wood]) {
            long[] polynomial = determinant(t, s, w);
            for (int each = 0; each < 4; each++) {
                ALL_TONES[wood * 4 + each] = (short) toneBySearch(polynomial, each);
            }
            KNOWN[wood] = true;
        }
        return ALL_TONES[wood * 4 + k];
    }

    private static int toneBySearch(long[] polynomial, int k) {
        int atMost = 501;
        int atLeast = 0;
        while (atLeast < atMost) {
            int middle = (atLeast + atMost + 1) / 2;
            if (valuesBelow(polynomial, middle) <= k) atLeast = middle;
            else atMost = middle - 1;
        }
        return atLeast;
    }

    // ---- what can be seen of it without a call, for tests that choose what to ask

    int[] strips(int plate) {
        return plates.get(plate).clone();
    }

    List<int[]> woodsLeft() {
        List<int[]> left = new ArrayList<>();
        for (int s = 1; s <= 9; s++) {
            for (int w = 1; w <= 9; w++) {
                boolean fits = true;
                for (int i = 0; i < tapPlates.size(); i++) {
                    int[] span = tapSpans.get(i);
                    int heard = toneOf(tapPlates.get(i), s, w, span[0]);
                    fits &= heard >= span[1] && heard <= span[2];
                }
                if (fits) left.add(new int[] {s, w});
            }
        }
        return left;
    }

    // ---- plates

    int plate(int a, int b, int c, int d) {
        if (out(a, 1, 9) || out(b, 1, 9) || out(c, 1, 9) || out(d, 1, 9)) return BAD;
        if (plates.size() == 4) return FULL;
        plates.add(new int[] {a, b, c, d});
        logs.add(new ArrayList<>());
        return plates.size() - 1;
    }

    int thick(int plate, int strip) {
        if (noPlate(plate) || out(strip, 0, 3)) return BAD;
        return plates.get(plate)[strip];
    }

    int least(int v) {
        if (out(v, 1, 9)) return BAD;
        int was = least;
        least = v;
        return was;
    }

    int shave(int plate, int strip) {
        if (noPlate(plate) || out(strip, 0, 3)) return BAD;
        if (plates.get(plate)[strip] - 1 < least) return NOT;
        if (logs.get(plate).size() == 20) return FULL;
        logs.get(plate).add(strip);
        return --plates.get(plate)[strip];
    }

    int undo(int plate) {
        if (noPlate(plate)) return BAD;
        List<Integer> log = logs.get(plate);
        if (log.isEmpty()) return NOT;
        int strip = log.remove(log.size() - 1);
        plates.get(plate)[strip]++;
        return strip;
    }

    int mirror(int plate) {
        if (noPlate(plate)) return BAD;
        int[] t = plates.get(plate);
        plates.set(plate, new int[] {t[3], t[2], t[1], t[0]});
        logs.get(plate).clear();
        return 1;
    }

    // ---- tones

    int tone(int plate, int s, int w, int k) {
        if (noPlate(plate) || out(s, 1, 9) || out(w, 1, 9) || out(k, 0, 3)) return BAD;
        return toneOf(plates.get(plate), s, w, k);
    }

    int below(int plate, int s, int w, int x) {
        if (noPlate(plate) || out(s, 1, 9) || out(w, 1, 9) || out(x, 0, 500)) return BAD;
        return valuesBelow(determinant(plates.get(plate), s, w), x);
    }

    int bond(int plate, int s, int i) {
        if (noPlate(plate) || out(s, 1, 9) || out(i, 0, 4)) return BAD;
        return bondOf(plates.get(plate), s, i);
    }

    // ---- taps, woods

    int tap(int plate, int k, int low, int high) {
        if (noPlate(plate) || out(k, 0, 3) || noSpan(low, high)) return BAD;
        if (tapPlates.size() == 12) return FULL;
        tapPlates.add(strips(plate));
        tapSpans.add(new int[] {k, low, high});
        return tapPlates.size() - 1;
    }

    int untap(int tap) {
        if (out(tap, 0, tapPlates.size() - 1)) return BAD;
        tapPlates.remove(tap);
        tapSpans.remove(tap);
        return 1;
    }

    int woods() {
        return woodsLeft().size();
    }

    int wood(int i, int what) {
        List<int[]> left = woodsLeft();
        if (out(i, 0, left.size() - 1) || out(what, 0, 1)) return BAD;
        return left.get(i)[what];
    }

    int span(int plate, int k, int way) {
        if (noPlate(plate) || out(k, 0, 3) || out(way, 0, 1)) return BAD;
        List<int[]> left = woodsLeft();
        if (left.isEmpty()) return NOT;
        int from = Integer.MAX_VALUE;
        int to = Integer.MIN_VALUE;
        for (int[] wood : left) {
            int tone = toneOf(plates.get(plate), wood[0], wood[1], k);
            from = Math.min(from, tone);
            to = Math.max(to, tone);
        }
        return way == 0 ? from : to;
    }

    int next(int plate, int what) {
        if (noPlate(plate) || out(what, 0, 1)) return BAD;
        List<int[]> left = woodsLeft();
        if (left.isEmpty()) return NOT;
        int best = NONE;
        int bestHeap = 0;
        for (int k = 0; k < 4; k++) {
            int heap = greatestHeap(plates.get(plate), left, k);
            if (best == NONE || heap < bestHeap) {
                best = k;
                bestHeap = heap;
            }
        }
        return what == 0 ? best : bestHeap;
    }

    private static int greatestHeap(int[] t, List<int[]> left, int k) {
        int greatest = 0;
        for (int[] one : left) {
            int alike = 0;
            for (int[] other : left) {
                if (toneOf(t, one[0], one[1], k) == toneOf(t, other[0], other[1], k)) alike++;
            }
            greatest = Math.max(greatest, alike);
        }
        return greatest;
    }

    // ---- aims, plans, pairs

    int aim(int k, int from, int to) {
        if (out(k, 0, 3) || noSpan(from, to)) return BAD;
        aims[k] = new int[] {from, to};
        return 1;
    }

    int aimless() {
        int were = count(2);
        for (int k = 0; k < 4; k++) aims[k] = null;
        return were;
    }

    int plan(int plate) {
        if (noPlate(plate)) return BAD;
        if (woods() == 0) return NOT;
        int[] end = endOfPlan(plate);
        return end == null ? NONE : shavings(plates.get(plate), end).size();
    }

    int planned(int plate, int i) {
        if (noPlate(plate) || i < 0) return BAD;
        if (woods() == 0) return NOT;
        int[] end = endOfPlan(plate);
        if (end == null) return NONE;
        List<Integer> row = shavings(plates.get(plate), end);
        return i < row.size() ? row.get(i) : NONE;
    }

    int carve(int plate) {
        if (noPlate(plate)) return BAD;
        if (woods() == 0) return NOT;
        int[] end = endOfPlan(plate);
        if (end == null) return NOT;
        List<Integer> row = shavings(plates.get(plate), end);
        if (logs.get(plate).size() + row.size() > 20) return FULL;
        logs.get(plate).addAll(row);
        plates.set(plate, end);
        return row.size();
    }

    private static List<Integer> shavings(int[] t, int[] end) {
        List<Integer> row = new ArrayList<>();
        for (int strip = 0; strip < 4; strip++) {
            for (int i = end[strip]; i < t[strip]; i++) row.add(strip);
        }
        return row;
    }

    /** The thickest ends come first, so that of equally many SHAVINGS the first is THE PLAN. */
    private int[] endOfPlan(int plate) {
        int[] t = plates.get(plate);
        List<int[]> left = woodsLeft();
        int[] best = null;
        for (int a = t[0]; a >= Math.min(t[0], least); a--) {
            for (int b = t[1]; b >= Math.min(t[1], least); b--) {
                for (int c = t[2]; c >= Math.min(t[2], least); c--) {
                    for (int d = t[3]; d >= Math.min(t[3], least); d--) {
                        int[] end = {a, b, c, d};
                        boolean fewer = best == null || sum(end) > sum(best);
                        if (fewer && inAllSpans(end, left)) best = end;
                    }
                }
            }
        }
        return best;
    }

    private static int sum(int[] t) {
        return t[0] + t[1] + t[2] + t[3];
    }

    private boolean inAllSpans(int[] t, List<int[]> left) {
        for (int k = 0; k < 4; k++) {
            if (aims[k] == null) continue;
            for (int[] wood : left) {
                if (out(toneOf(t, wood[0], wood[1], k), aims[k][0], aims[k][1])) return false;
            }
        }
        return true;
    }

    int off(int v) {
        if (out(v, 0, 200)) return BAD;
        int was = off;
        off = v;
        return was;
    }

    int even(int a, int b) {
        if (noPlate(a) || noPlate(b)) return BAD;
        List<int[]> left = woodsLeft();
        if (left.isEmpty()) return NOT;
        for (int[] wood : left) {
            int one = toneOf(plates.get(a), wood[0], wood[1], 0);
            int other = toneOf(plates.get(b), wood[0], wood[1], 0);
            if (Math.abs(one - other) > off) return 0;
        }
        return 1;
    }

    int count(int what) {
        int sum = 0;
        switch (what) {
            case 0: return plates.size();
            case 1: return tapPlates.size();
            case 2:
                for (int[] aim : aims) if (aim != null) sum++;
                return sum;
            case 3:
                for (List<Integer> log : logs) sum += log.size();
                return sum;
            default: return BAD;
        }
    }

    private boolean noPlate(int plate) {
        return out(plate, 0, plates.size() - 1);
    }

    private static boolean noSpan(int from, int to) {
        return out(from, 0, 500) || out(to, 0, 500) || from > to;
    }

    private static boolean out(int v, int from, int to) {
        return v < from || v > to;
    }
}
