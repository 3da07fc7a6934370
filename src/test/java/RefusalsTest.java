import java.util.ArrayList;
import java.util.Arrays;
import java.util.List;
import java.util.function.Consumer;
import java.util.function.ToIntBiFunction;
import java.util.function.ToIntFunction;

/**
 * "Refused, and nothing changes, the first that fits: BAD .., NOT .., FULL."
 *
 * <p>Each call is made in several STATES, with each of its numbers at both ends of its bounds and
 * right beyond them; then those calls for which several refusals fit at once. Behind a refused
 * call the object must answer all that can be asked just as one that was never asked it.
 */
public final class RefusalsTest {
    private static final int NONE = -1, BAD = -2, NOT = -3, FULL = -4;
    private static final int LEAST_INT = Integer.MIN_VALUE, GREATEST_INT = Integer.MAX_VALUE;

    /** A run of calls that leads somewhere, and how many PLATES, TAPS, WOODS LEFT are there. */
    private record State(String name, Consumer<FiddlePlates> calls, int plates, int taps, int woods) {
        FiddlePlates made() {
            FiddlePlates x = new FiddlePlates();
            calls.accept(x);
            return x;
        }
    }

    private record Bounds(int from, int to) {
        boolean none() {
            return from > to;
        }
    }

    /** A call with the bounds of its numbers, and with numbers that are within them. */
    private record Asked(String name, ToIntBiFunction<FiddlePlates, int[]> call, int[] within, Bounds... bounds) {}

    private static final Bounds STRIP = new Bounds(0, 3), TONE = new Bounds(0, 3), ONE_OF_TWO = new Bounds(0, 1);
    private static final Bounds THICKNESS = new Bounds(1, 9), STIFFNESS = new Bounds(1, 9), WEIGHT = new Bounds(1, 9);
    private static final Bounds NUMBER = new Bounds(0, 500);

    private static final State NEW = new State("new", x -> {}, 0, 0, 81);
    private static final State ONE_PLATE = new State("one plate", x -> x.plate(5, 5, 5, 5), 1, 0, 81);
    private static final State ALL_FULL = new State("all full", RefusalsTest::fill, 4, 12, 18);
    private static final State NO_WOOD = new State("no wood left", RefusalsTest::loseAllWoods, 2, 1, 0);
    private static final State FULL_OF_NO_WOOD = new State("all full, no wood left", RefusalsTest::fillWithNoWood, 4, 12, 0);
    private static final State NO_PLAN = new State("no plan", RefusalsTest::aimTooHigh, 4, 1, 24);
    private static final State[] STATES = {NEW, ONE_PLATE, ALL_FULL, NO_WOOD, FULL_OF_NO_WOOD, NO_PLAN};

    private static int wrong = 0;

    public static void main(String[] args) {
        for (State state : STATES) {
            statesAreAsTold(state);
            for (Asked asked : callsIn(state)) {
                atBothEnds(state, asked);
                beyondBothEnds(state, asked);
                allBeyond(state, asked);
            }
            spansTurnedAbout(state);
        }
        badFirst();
        notNow();
        notAheadOfFull();
        full();
        answersThatAreNoRefusal();
        System.out.println(wrong == 0 ? "all refusals are as due" : wrong + " refusals are not as due");
        if (wrong != 0) System.exit(1);
    }

    // ---- the states

    private static void fillPlates(FiddlePlates x) {
        x.plate(9, 9, 9, 9);
        x.plate(5, 5, 5, 5);
        x.plate(2, 2, 1, 2);
        x.plate(6, 7, 8, 9);
        x.least(3);
        x.off(2);
        for (int i = 0; i < 6; i++) x.shave(0, 0);
        for (int i = 0; i < 5; i++) x.shave(0, 2);
        for (int i = 0; i < 5; i++) x.shave(0, 1);
        for (int i = 0; i < 4; i++) x.shave(0, 3);
        x.shave(3, 3);
        x.shave(3, 1);
        x.aim(0, 0, 30);
        x.aim(1, 0, 20);
        x.aim(2, 0, 30);
        x.aim(3, 3, 24);
    }

    /** PLATE 0 is 3445 now, and its LOG is full. */
    private static void fill(FiddlePlates x) {
        fillPlates(x);
        x.tap(0, 3, 9, 40);
        x.tap(1, 2, 0, 33);
        x.tap(3, 1, 6, 15);
        for (int i = 3; i < 12; i++) x.tap(i % 4, i / 3, 0, 100 + i);
    }

    private static void fillWithNoWood(FiddlePlates x) {
        fillPlates(x);
        x.tap(0, 3, 9, 40);
        x.tap(3, 0, 500, 500);
        for (int i = 2; i < 12; i++) x.tap(i % 4, i / 3, 0, 100 + i);
    }

    private static void loseAllWoods(FiddlePlates x) {
        x.plate(9, 8, 7, 6);
        x.plate(4, 5, 6, 7);
        x.shave(1, 3);
        x.shave(1, 0);
        x.aim(3, 0, 50);
        x.tap(0, 0, 500, 500);
    }

    private static void aimTooHigh(FiddlePlates x) {
        fillPlates(x);
        x.tap(0, 3, 9, 40);
        x.aim(3, 400, 500);
    }

    // ---- the calls

    private static List<Asked> callsIn(State state) {
        Bounds plate = new Bounds(0, state.plates - 1);
        List<Asked> all = new ArrayList<>();
        addPlateCalls(all, plate);
        addToneCalls(all, plate);
        addTapCalls(all, plate, new Bounds(0, state.taps - 1), new Bounds(0, state.woods - 1));
        addPlanCalls(all, plate);
        return all;
    }

    private static void addPlateCalls(List<Asked> all, Bounds plate) {
        all.add(new Asked("plate", (x, n) -> x.plate(n[0], n[1], n[2], n[3]), numbers(5, 5, 5, 5),
                THICKNESS, THICKNESS, THICKNESS, THICKNESS));
        all.add(new Asked("thick", (x, n) -> x.thick(n[0], n[1]), numbers(0, 0), plate, STRIP));
        all.add(new Asked("least", (x, n) -> x.least(n[0]), numbers(4), THICKNESS));
        all.add(new Asked("shave", (x, n) -> x.shave(n[0], n[1]), numbers(0, 0), plate, STRIP));
        all.add(new Asked("undo", (x, n) -> x.undo(n[0]), numbers(0), plate));
        all.add(new Asked("mirror", (x, n) -> x.mirror(n[0]), numbers(0), plate));
    }

    private static void addToneCalls(List<Asked> all, Bounds plate) {
        all.add(new Asked("tone", (x, n) -> x.tone(n[0], n[1], n[2], n[3]), numbers(0, 5, 5, 0),
                plate, STIFFNESS, WEIGHT, TONE));
        all.add(new Asked("below", (x, n) -> x.below(n[0], n[1], n[2], n[3]), numbers(0, 5, 5, 5),
                plate, STIFFNESS, WEIGHT, NUMBER));
        all.add(new Asked("bond", (x, n) -> x.bond(n[0], n[1], n[2]), numbers(0, 5, 1),
                plate, STIFFNESS, new Bounds(0, 4)));
    }

    private static void addTapCalls(List<Asked> all, Bounds plate, Bounds tap, Bounds wood) {
        all.add(new Asked("tap", (x, n) -> x.tap(n[0], n[1], n[2], n[3]), numbers(0, 0, 0, 500),
                plate, TONE, NUMBER, NUMBER));
        all.add(new Asked("untap", (x, n) -> x.untap(n[0]), numbers(0), tap));
        all.add(new Asked("wood", (x, n) -> x.wood(n[0], n[1]), numbers(0, 0), wood, ONE_OF_TWO));
        all.add(new Asked("span", (x, n) -> x.span(n[0], n[1], n[2]), numbers(0, 0, 0), plate, TONE, ONE_OF_TWO));
        all.add(new Asked("next", (x, n) -> x.next(n[0], n[1]), numbers(0, 0), plate, ONE_OF_TWO));
    }

    private static void addPlanCalls(List<Asked> all, Bounds plate) {
        all.add(new Asked("aim", (x, n) -> x.aim(n[0], n[1], n[2]), numbers(0, 0, 500), TONE, NUMBER, NUMBER));
        all.add(new Asked("plan", (x, n) -> x.plan(n[0]), numbers(0), plate));
        all.add(new Asked("planned", (x, n) -> x.planned(n[0], n[1]), numbers(0, 0),
                plate, new Bounds(0, GREATEST_INT)));
        all.add(new Asked("carve", (x, n) -> x.carve(n[0]), numbers(0), plate));
        all.add(new Asked("off", (x, n) -> x.off(n[0]), numbers(9), new Bounds(0, 200)));
        all.add(new Asked("even", (x, n) -> x.even(n[0], n[1]), numbers(0, 0), plate, plate));
        all.add(new Asked("count", (x, n) -> x.count(n[0]), numbers(0), new Bounds(0, 3)));
    }

    private static int[] numbers(int... n) {
        return n;
    }

    // ---- each number at its bounds

    private static void statesAreAsTold(State state) {
        FiddlePlates x = state.made();
        due(state.name + ": plates", x.count(0), state.plates);
        due(state.name + ": taps", x.count(1), state.taps);
        due(state.name + ": woods", x.woods(), state.woods);
    }

    private static void atBothEnds(State state, Asked asked) {
        for (Bounds bounds : asked.bounds) {
            if (bounds.none()) return;
        }
        for (int i = 0; i < asked.bounds.length; i++) {
            notBad(state, asked, i, asked.bounds[i].from);
            notBad(state, asked, i, asked.bounds[i].to);
        }
    }

    private static void notBad(State state, Asked asked, int place, int number) {
        int[] numbers = asked.within.clone();
        numbers[place] = number;
        int got = asked.call.applyAsInt(state.made(), numbers);
        tell(got != BAD, state.name + ": " + asked.name + Arrays.toString(numbers) + " is within all bounds, but BAD");
    }

    private static void beyondBothEnds(State state, Asked asked) {
        for (int i = 0; i < asked.bounds.length; i++) {
            Bounds bounds = asked.bounds[i];
            bad(state, asked, i, bounds.from - 1);
            bad(state, asked, i, LEAST_INT);
            if (bounds.to < GREATEST_INT) {
                bad(state, asked, i, bounds.to + 1);
                bad(state, asked, i, GREATEST_INT);
            }
        }
    }

    private static void bad(State state, Asked asked, int place, int number) {
        int[] numbers = asked.within.clone();
        numbers[place] = number;
        refused(state, asked.name + Arrays.toString(numbers), BAD, x -> asked.call.applyAsInt(x, numbers));
    }

    private static void allBeyond(State state, Asked asked) {
        int[] below = asked.within.clone();
        int[] above = asked.within.clone();
        for (int i = 0; i < asked.bounds.length; i++) {
            below[i] = asked.bounds[i].from - 1;
            // where there is no number too great, one too small
            above[i] = asked.bounds[i].to < GREATEST_INT ? asked.bounds[i].to + 1 : -1;
        }
        refused(state, asked.name + Arrays.toString(below), BAD, x -> asked.call.applyAsInt(x, below));
        refused(state, asked.name + Arrays.toString(above), BAD, x -> asked.call.applyAsInt(x, above));
    }

    /** "low above high", "from not above to": by one, at both ends of the numbers. */
    private static void spansTurnedAbout(State state) {
        for (int k = 0; k < 4; k++) {
            int tone = k;
            refused(state, "tap(0, " + k + ", 1, 0)", BAD, x -> x.tap(0, tone, 1, 0));
            refused(state, "tap(0, " + k + ", 500, 499)", BAD, x -> x.tap(0, tone, 500, 499));
            refused(state, "aim(" + k + ", 1, 0)", BAD, x -> x.aim(tone, 1, 0));
            refused(state, "aim(" + k + ", 500, 499)", BAD, x -> x.aim(tone, 500, 499));
        }
    }

    // ---- the first that fits

    private static void badFirst() {
        refused(ALL_FULL, "a bad plate, though full", BAD, x -> x.plate(9, 9, 9, 10));
        refused(ALL_FULL, "a bad strip, though the LOG is full", BAD, x -> x.shave(0, 4));
        refused(ALL_FULL, "a bad strip, though all are below LEAST", BAD, x -> x.shave(2, -1));
        refused(ALL_FULL, "a bad span, though full", BAD, x -> x.tap(0, 0, 3, 2));
        refused(NO_WOOD, "a bad tone, though no wood", BAD, x -> x.span(0, 4, 0));
        refused(NO_WOOD, "a bad way, though no wood", BAD, x -> x.span(0, 0, 2));
        refused(NO_WOOD, "a bad what, though no wood", BAD, x -> x.next(0, 2));
        refused(NO_WOOD, "a bad plate to plan, though no wood", BAD, x -> x.plan(2));
        refused(NO_WOOD, "a bad shaving, though no wood", BAD, x -> x.planned(0, -1));
        refused(NO_PLAN, "a bad shaving, though no plan", BAD, x -> x.planned(0, -1));
        refused(NO_WOOD, "a bad plate to carve, though no wood", BAD, x -> x.carve(2));
        refused(NO_WOOD, "a bad pair, though no wood", BAD, x -> x.even(0, 2));
        refused(NO_WOOD, "a bad pair the other way, though no wood", BAD, x -> x.even(2, 0));
        refused(NO_WOOD, "wood 0 of none", BAD, x -> x.wood(0, 0));
        refused(FULL_OF_NO_WOOD, "a bad span, though full and no wood", BAD, x -> x.tap(0, 0, 0, 501));
    }

    private static void notNow() {
        refused(ONE_PLATE, "undo of an empty LOG", NOT, x -> x.undo(0));
        refused(ALL_FULL, "undo of an empty LOG beside a full one", NOT, x -> x.undo(1));
        for (int i = 0; i < 4; i++) {
            int strip = i;
            refused(ALL_FULL, "strip " + i + " below LEAST", NOT, x -> x.shave(2, strip));
        }
        refused(NO_WOOD, "the least by no wood", NOT, x -> x.span(1, 3, 0));
        refused(NO_WOOD, "the greatest by no wood", NOT, x -> x.span(1, 3, 1));
        refused(NO_WOOD, "the next tap by no wood", NOT, x -> x.next(1, 0));
        refused(NO_WOOD, "its heap by no wood", NOT, x -> x.next(1, 1));
        refused(NO_WOOD, "a plan by no wood", NOT, x -> x.plan(1));
        refused(NO_WOOD, "shaving 0 by no wood", NOT, x -> x.planned(1, 0));
        refused(NO_WOOD, "the last shaving by no wood", NOT, x -> x.planned(1, GREATEST_INT));
        refused(NO_WOOD, "carve by no wood", NOT, x -> x.carve(1));
        refused(NO_WOOD, "a pair by no wood", NOT, x -> x.even(0, 1));
        refused(NO_WOOD, "one and itself by no wood", NOT, x -> x.even(1, 1));
        refused(NO_PLAN, "carve by no plan", NOT, x -> x.carve(1));
    }

    private static void notAheadOfFull() {
        refused(ALL_FULL, "a strip at LEAST, the LOG is full", NOT, x -> x.shave(0, 0));
        refused(NO_PLAN, "no plan, the LOG is full", NOT, x -> x.carve(0));
        refused(FULL_OF_NO_WOOD, "no wood, the LOG is full", NOT, x -> x.carve(0));
    }

    private static void full() {
        refused(ALL_FULL, "a fifth plate", FULL, x -> x.plate(1, 1, 1, 1));
        refused(ALL_FULL, "a fifth plate, the thickest", FULL, x -> x.plate(9, 9, 9, 9));
        for (int i = 1; i < 4; i++) {
            int strip = i;
            refused(ALL_FULL, "strip " + i + ", the LOG is full", FULL, x -> x.shave(0, strip));
        }
        refused(ALL_FULL, "tap 12", FULL, x -> x.tap(1, 3, 0, 500));
        refused(ALL_FULL, "tap 12, of no wood", FULL, x -> x.tap(1, 3, 500, 500));
        refused(FULL_OF_NO_WOOD, "tap 12, no wood is left", FULL, x -> x.tap(1, 3, 0, 500));
        refused(ALL_FULL, "one shaving more for a full LOG", FULL, x -> x.carve(0));
    }

    /** NONE is an answer too, and what only asks leaves all as it is. */
    private static void answersThatAreNoRefusal() {
        refused(NO_PLAN, "there is no plan", NONE, x -> x.plan(0));
        refused(NO_PLAN, "no shaving of no plan", NONE, x -> x.planned(0, 0));
        refused(ONE_PLATE, "an empty plan", 0, x -> x.plan(0));
        refused(ONE_PLATE, "no shaving of an empty plan", NONE, x -> x.planned(0, 0));
        refused(ONE_PLATE, "an empty plan carved", 0, x -> x.carve(0));
        refused(NEW, "no spans to drop", 0, x -> x.aimless());
    }

    // ---- nothing changes

    private static void refused(State state, String what, int want, ToIntFunction<FiddlePlates> call) {
        FiddlePlates x = state.made();
        due(state.name + ": " + what, call.applyAsInt(x), want);
        due(state.name + ": " + what + ", again", call.applyAsInt(x), want);
        List<Integer> is = allAnswers(x);
        List<Integer> was = allAnswers(state.made());
        tell(is.equals(was), state.name + ": " + what + " changed something: " + is + " for " + was);
    }

    /** All that can be seen of an object; it is spent then. Some 400 calls at most. */
    private static List<Integer> allAnswers(FiddlePlates x) {
        List<Integer> answers = new ArrayList<>();
        for (int what = 0; what < 4; what++) answers.add(x.count(what));
        addStrips(x, answers);
        addWoods(x, answers);
        for (int p = 0; p < 4; p++) addOfPlate(x, p, answers);
        answers.add(x.least(3));
        answers.add(x.off(5));
        addLogs(x, answers);
        addStrips(x, answers);
        addTaps(x, answers);
        // by all WOODS now, and with the STRIPS as they were laid
        for (int p = 0; p < 4; p++) answers.add(x.plan(p));
        answers.add(x.aimless());
        return answers;
    }

    private static void addStrips(FiddlePlates x, List<Integer> answers) {
        for (int p = 0; p < 4; p++) {
            for (int strip = 0; strip < 4; strip++) answers.add(x.thick(p, strip));
        }
    }

    private static void addWoods(FiddlePlates x, List<Integer> answers) {
        int woods = x.woods();
        answers.add(woods);
        for (int i = 0; i < woods; i++) {
            answers.add(x.wood(i, 0));
            answers.add(x.wood(i, 1));
        }
    }

    private static void addOfPlate(FiddlePlates x, int plate, List<Integer> answers) {
        for (int k = 0; k < 4; k++) {
            answers.add(x.span(plate, k, 0));
            answers.add(x.span(plate, k, 1));
        }
        answers.add(x.next(plate, 0));
        answers.add(x.next(plate, 1));
        answers.add(x.plan(plate));
        for (int i = 0; i < 3; i++) answers.add(x.planned(plate, i));
        answers.add(x.even(plate, 0));
    }

    private static void addLogs(FiddlePlates x, List<Integer> answers) {
        for (int p = 0; p < 4; p++) {
            int undone = 0;
            for (int i = 0; i <= 20 && undone >= 0; i++) {
                undone = x.undo(p);
                answers.add(undone);
            }
        }
    }

    private static void addTaps(FiddlePlates x, List<Integer> answers) {
        int untapped = 1;
        for (int i = 0; i <= 12 && untapped == 1; i++) {
            untapped = x.untap(0);
            answers.add(untapped);
            answers.add(x.woods());
        }
    }

    private static void due(String what, int got, int want) {
        tell(got == want, what + " answered " + got + ", due is " + want);
    }

    private static void tell(boolean holds, String what) {
        if (!holds) {
            wrong++;
            System.out.println(what);
        }
    }
}
