import java.util.List;
import java.util.Random;

/** Long runs of calls that a told seed chooses, each answer held against the plain model. */
public final class RandomRunsTest {
    private static final int RUNS = 400;
    private static final int CALLS = 512;

    private final Random random;
    private final int run;
    private final FiddlePlates x = new FiddlePlates();
    private final PlainPlates plain = new PlainPlates();
    private int wrong = 0;

    private static final int[] answersOfPlans = new int[5];

    private RandomRunsTest(int run) {
        this.run = run;
        this.random = new Random(20261116L * 1000 + run);
    }

    public static void main(String[] args) {
        int wrong = 0;
        for (int run = 0; run < RUNS; run++) {
            RandomRunsTest test = new RandomRunsTest(run);
            // the first answer that is not due spoils those behind it
            for (int call = 0; call < CALLS && test.wrong == 0; call++) test.anyCall();
            wrong += test.wrong;
        }
        System.out.println("plans asked: " + answersOfPlans[4] + " with shavings, " + answersOfPlans[0] + " empty, "
                + answersOfPlans[1] + " none, " + answersOfPlans[2] + " bad, " + answersOfPlans[3] + " not");
        System.out.println(wrong == 0 ? "all answers are as due" : wrong + " runs have an answer that is not due");
        if (wrong != 0) System.exit(1);
    }

    private void anyCall() {
        switch (random.nextInt(run % 2 == 0 ? 25 : 22)) {
            case 0: {
                int a = thickness(), b = thickness(), c = thickness(), d = thickness();
                due("plate", x.plate(a, b, c, d), plain.plate(a, b, c, d), a, b, c, d);
                break;
            }
            case 1: {
                int p = plate(), i = number(0, 3);
                due("thick", x.thick(p, i), plain.thick(p, i), p, i);
                break;
            }
            case 2: {
                int v = random.nextBoolean() ? number(1, 9) : number(1, 3);
                due("least", x.least(v), plain.least(v), v);
                break;
            }
            case 3:
            case 4: {
                int p = plate(), i = number(0, 3);
                due("shave", x.shave(p, i), plain.shave(p, i), p, i);
                break;
            }
            case 5: {
                int p = plate();
                due("undo", x.undo(p), plain.undo(p), p);
                break;
            }
            case 6: {
                if (random.nextInt(3) > 0) break;
                int p = plate();
                due("mirror", x.mirror(p), plain.mirror(p), p);
                break;
            }
            case 7: {
                int p = plate(), s = number(1, 9), w = number(1, 9), k = number(0, 3);
                due("tone", x.tone(p, s, w, k), plain.tone(p, s, w, k), p, s, w, k);
                break;
            }
            case 8: {
                int p = plate(), s = number(1, 9), w = number(1, 9);
                int v = random.nextBoolean() ? number(0, 500) : number(0, 20);
                due("below", x.below(p, s, w, v), plain.below(p, s, w, v), p, s, w, v);
                break;
            }
            case 9: {
                int p = plate(), s = number(1, 9), i = number(0, 4);
                due("bond", x.bond(p, s, i), plain.bond(p, s, i), p, s, i);
                break;
            }
            case 10:
                someTap();
                break;
            case 11: {
                int i = number(0, Math.max(0, plain.count(1) - 1));
                due("untap", x.untap(i), plain.untap(i), i);
                break;
            }
            case 12:
                due("woods", x.woods(), plain.woods());
                break;
            case 13: {
                int i = number(0, Math.max(0, plain.woods() - 1)), what = number(0, 1);
                due("wood", x.wood(i, what), plain.wood(i, what), i, what);
                break;
            }
            case 14: {
                int p = plate(), k = number(0, 3), way = number(0, 1);
                due("span", x.span(p, k, way), plain.span(p, k, way), p, k, way);
                break;
            }
            case 15: {
                int p = plate(), what = number(0, 1);
                due("next", x.next(p, what), plain.next(p, what), p, what);
                break;
            }
            case 16:
                someAim();
                break;
            case 17: {
                if (random.nextBoolean()) due("aimless", x.aimless(), plain.aimless());
                break;
            }
            case 18: {
                int v = random.nextBoolean() ? number(0, 200) : number(0, 3);
                due("off", x.off(v), plain.off(v), v);
                break;
            }
            case 19: {
                int a = plate(), b = plate();
                due("even", x.even(a, b), plain.even(a, b), a, b);
                break;
            }
            case 20:
            case 21: {
                int what = number(0, 3);
                due("count", x.count(what), plain.count(what), what);
                break;
            }
            default:
                somePlan();
                break;
        }
    }

    private void somePlan() {
        int p = plate();
        if (random.nextInt(4) == 0) {
            due("carve", x.carve(p), plain.carve(p), p);
        } else if (random.nextBoolean()) {
            int i = number(0, random.nextBoolean() ? 3 : 33);
            due("planned", x.planned(p, i), plain.planned(p, i), p, i);
        } else {
            int want = plain.plan(p);
            answersOfPlans[want > 0 ? 4 : -want]++;
            due("plan", x.plan(p), want, p);
        }
    }

    /** Mostly a span about a TONE that the PLATE has, so that WOODS are left. */
    private void someTap() {
        int p = plate(), k = number(0, 3);
        int heard = plain.tone(p, 1 + random.nextInt(9), 1 + random.nextInt(9), k);
        int low, high;
        if (heard < 0 || random.nextInt(8) == 0) {
            low = number(0, 500);
            high = number(0, 500);
        } else {
            low = Math.max(random.nextInt(30) == 0 ? -1 : 0, heard - random.nextInt(12));
            high = heard + random.nextInt(12);
        }
        due("tap", x.tap(p, k, low, high), plain.tap(p, k, low, high), p, k, low, high);
    }

    /** Mostly the very span, or a bit more or less, that some shaved PLATE has. */
    private void someAim() {
        int k = number(0, 3);
        List<int[]> left = plain.woodsLeft();
        if (plain.count(0) == 0 || left.isEmpty() || k < 0 || k > 3 || random.nextInt(8) == 0) {
            int from = number(0, 500), to = number(0, 500);
            due("aim", x.aim(k, from, to), plain.aim(k, from, to), k, from, to);
            return;
        }
        int[] end = plain.strips(random.nextInt(plain.count(0)));
        for (int i = 0; i < 4; i++) end[i] = Math.max(1, end[i] - random.nextInt(5));
        int from = Integer.MAX_VALUE, to = 0;
        for (int[] wood : left) {
            int tone = PlainPlates.toneOf(end, wood[0], wood[1], k);
            from = Math.min(from, tone);
            to = Math.max(to, tone);
        }
        from = Math.max(0, from - random.nextInt(3));
        to = Math.max(from, to + random.nextInt(4) - 1);
        due("aim", x.aim(k, from, to), plain.aim(k, from, to), k, from, to);
    }

    private int plate() {
        return number(0, Math.max(0, plain.count(0) - 1));
    }

    private int thickness() {
        return run % 3 == 0 ? number(1, 9) : number(5, 9);
    }

    /** Seldom one beside the bounds, or far beyond them. */
    private int number(int from, int to) {
        switch (random.nextInt(80)) {
            case 0: return from - 1;
            case 1: return to + 1;
            case 2: return random.nextInt();
            case 3: return random.nextBoolean() ? Integer.MIN_VALUE : Integer.MAX_VALUE;
            default: return from + random.nextInt(to - from + 1);
        }
    }

    private void due(String call, int got, int want, int... arguments) {
        if (got != want) {
            wrong++;
            System.out.println("run " + run + ": " + call + java.util.Arrays.toString(arguments)
                    + " answered " + got + ", due is " + want);
        }
    }
}
