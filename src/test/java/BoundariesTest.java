/**
 * Each sentence of the document that names a boundary, in its order, with the sentence itself:
 * the last number within and the first one outside, the empty and the full.
 *
 * <p>What is refused, in which order, and that nothing changes then: see RefusalsTest.
 */
public final class BoundariesTest {
    private static final int NONE = -1, BAD = -2, NOT = -3, FULL = -4;

    private static String sentence = "";
    private static int wrong = 0;
    private static FiddlePlates x;

    public static void main(String[] args) {
        strips();
        thicknesses();
        stiffnessAndWeight();
        bondsBetween();
        bondsAtTheRim();
        bondsAreNumbered();
        tonesAreNumbered();
        tonesAreCut();
        valuesBelow();
        platesAtMost();
        tapsAtMost();
        tapsOfPlatesAsTheyWere();
        tapsNotBelowNotAbove();
        woodsLeft();
        woodsStand();
        sureSpan();
        sureSpanOfTheLeast();
        nextTap();
        nextTapOfSeveral();
        leastAtFirst();
        leastOfShavings();
        leastOfPlans();
        leastOfPlansByStrip();
        plansOfStripsBelowLeast();
        spansOfAims();
        spansOfSomeTones();
        plansForAllWoodsLeft();
        thePlanIsTheShortest();
        thePlanOfSeveral();
        thePlanGoesByStrips();
        noSpans();
        logOfEachPlate();
        logIsFull();
        undone();
        undoneAsLeastIsNow();
        mirrored();
        even();
        evenByOneWood();
        offAtFirst();
        newObject();
        untapped();
        tappedAgain();
        planned();
        plannedAsAllIsNow();
        carved();
        carvedIntoTheLog();
        aimless();
        counts();
        lastOfAllCalls();
        System.out.println(wrong == 0 ? "all boundaries hold" : wrong + " answers are not as due");
        if (wrong != 0) System.exit(1);
    }

    private static void says(String words) {
        sentence = words;
        x = new FiddlePlates();
    }

    private static void due(String call, int got, int want) {
        if (got != want) {
            wrong++;
            System.out.println("\"" + sentence + "\": " + call + " answered " + got + ", due is " + want);
        }
    }

    private static void dueStrips(String after, int plate, int a, int b, int c, int d) {
        int got = x.thick(plate, 0) * 1000 + x.thick(plate, 1) * 100 + x.thick(plate, 2) * 10 + x.thick(plate, 3);
        due(after + ": strips", got, a * 1000 + b * 100 + c * 10 + d);
    }

    /** One digit a SHAVING. */
    private static void duePlan(String when, int plate, String strips) {
        due(when + ": plan", x.plan(plate), strips.length());
        for (int i = 0; i < strips.length(); i++) {
            due(when + ": planned " + i, x.planned(plate, i), strips.charAt(i) - '0');
        }
        due(when + ": planned " + strips.length(), x.planned(plate, strips.length()), NONE);
    }

    private static void shaveOften(int plate, int strip, int often) {
        for (int i = 0; i < often; i++) x.shave(plate, strip);
    }

    // ---- 1: a plate

    private static void strips() {
        says("A PLATE has STRIPS 0 .. 3");
        x.plate(6, 7, 8, 9);
        due("strip -1", x.thick(0, -1), BAD);
        due("strip 0", x.thick(0, 0), 6);
        due("strip 3", x.thick(0, 3), 9);
        due("strip 4", x.thick(0, 4), BAD);
        due("shave -1", x.shave(0, -1), BAD);
        due("shave 0", x.shave(0, 0), 5);
        due("shave 3", x.shave(0, 3), 8);
        due("shave 4", x.shave(0, 4), BAD);
    }

    private static void thicknesses() {
        says("each of a THICKNESS (1 .. 9)");
        due("0 first", x.plate(0, 1, 1, 1), BAD);
        due("0 second", x.plate(1, 0, 1, 1), BAD);
        due("0 third", x.plate(1, 1, 0, 1), BAD);
        due("0 last", x.plate(1, 1, 1, 0), BAD);
        due("10 first", x.plate(10, 9, 9, 9), BAD);
        due("10 second", x.plate(9, 10, 9, 9), BAD);
        due("10 third", x.plate(9, 9, 10, 9), BAD);
        due("10 last", x.plate(9, 9, 9, 10), BAD);
        due("the thinnest", x.plate(1, 1, 1, 1), 0);
        due("the thickest", x.plate(9, 9, 9, 9), 1);
        dueStrips("the thinnest", 0, 1, 1, 1, 1);
        dueStrips("the thickest", 1, 9, 9, 9, 9);
    }

    private static void stiffnessAndWeight() {
        says("STIFFNESS s and WEIGHT w, 1 .. 9 each");
        x.plate(9, 9, 9, 9);
        due("tone of (0, 1)", x.tone(0, 0, 1, 3), BAD);
        due("tone of (10, 1)", x.tone(0, 10, 1, 3), BAD);
        due("tone of (1, 0)", x.tone(0, 1, 0, 3), BAD);
        due("tone of (1, 10)", x.tone(0, 1, 10, 3), BAD);
        due("tone of (9, 1), the greatest", x.tone(0, 9, 1, 3), 315);
        due("tone of (1, 9), the least", x.tone(0, 1, 9, 3), 3);
        due("tone of (1, 1)", x.tone(0, 1, 1, 3), 35);
        due("tone of (9, 9)", x.tone(0, 9, 9, 3), 35);
        due("below of (0, 1)", x.below(0, 0, 1, 1), BAD);
        due("below of (10, 1)", x.below(0, 10, 1, 1), BAD);
        due("below of (1, 0)", x.below(0, 1, 0, 1), BAD);
        due("below of (1, 10)", x.below(0, 1, 10, 1), BAD);
        due("below of (9, 1)", x.below(0, 9, 1, 35), 1);
        due("below of (9, 9)", x.below(0, 9, 9, 35), 3);
        due("bond of 0", x.bond(0, 0, 1), BAD);
        due("bond of 1", x.bond(0, 1, 1), 92);
        due("bond of 9", x.bond(0, 9, 1), 821);
        due("bond of 10", x.bond(0, 10, 1), BAD);
    }

    private static void bondsBetween() {
        says("s times the cube of the lesser of both THICKNESSES, by 8, cut, and 1 more");
        x.plate(1, 1, 2, 3);
        due("7 by 8", x.bond(0, 7, 1), 1);
        due("8 by 8", x.bond(0, 8, 1), 2);
        due("9 by 8", x.bond(0, 9, 1), 2);
        due("1 is the lesser", x.bond(0, 8, 2), 2);
        due("2 is the lesser", x.bond(0, 8, 3), 9);
        x.plate(3, 2, 1, 1);
        due("2 is the lesser, behind", x.bond(1, 8, 1), 9);
        due("1 is the lesser, behind", x.bond(1, 8, 2), 2);
        x.plate(3, 3, 3, 3);
        due("27 by 8", x.bond(2, 1, 2), 4);
        due("243 by 8", x.bond(2, 9, 2), 31);
    }

    private static void bondsAtTheRim() {
        says("the cube of that THICKNESS, by 32, cut, and 1 more");
        x.plate(2, 9, 9, 4);
        due("24 by 32", x.bond(0, 3, 0), 1);
        due("32 by 32", x.bond(0, 4, 0), 2);
        due("40 by 32", x.bond(0, 5, 0), 2);
        due("64 by 32", x.bond(0, 1, 4), 3);
        due("576 by 32", x.bond(0, 9, 4), 19);
        x.plate(1, 9, 9, 9);
        due("9 by 32", x.bond(1, 9, 0), 1);
        due("6561 by 32", x.bond(1, 9, 4), 206);
    }

    private static void bondsAreNumbered() {
        says("BOND i (1, 2, 3) lies between STRIPS i - 1 and i; BOND 0 and 4 hold STRIP 0 and STRIP 3");
        x.plate(2, 3, 4, 5);
        due("bond -1", x.bond(0, 8, -1), BAD);
        due("bond 0", x.bond(0, 8, 0), 3);
        due("bond 1", x.bond(0, 8, 1), 9);
        due("bond 2", x.bond(0, 8, 2), 28);
        due("bond 3", x.bond(0, 8, 3), 65);
        due("bond 4", x.bond(0, 8, 4), 32);
        due("bond 5", x.bond(0, 8, 5), BAD);
    }

    private static void tonesAreNumbered() {
        says("TONE k (k 0 .. 3) is the k-th of these (the least is 0)");
        x.plate(9, 9, 9, 9);
        due("tone -1", x.tone(0, 9, 1, -1), BAD);
        due("tone 0", x.tone(0, 9, 1, 0), 10);
        due("tone 1", x.tone(0, 9, 1, 1), 72);
        due("tone 2", x.tone(0, 9, 1, 2), 194);
        due("tone 3", x.tone(0, 9, 1, 3), 315);
        due("tone 4", x.tone(0, 9, 1, 4), BAD);
        due("tap of tone -1", x.tap(0, -1, 0, 1), BAD);
        due("tap of tone 4", x.tap(0, 4, 0, 1), BAD);
        due("span of tone -1", x.span(0, -1, 0), BAD);
        due("span of tone 4", x.span(0, 4, 0), BAD);
        due("aim for tone -1", x.aim(-1, 0, 1), BAD);
        due("aim for tone 4", x.aim(4, 0, 1), BAD);
    }

    private static void tonesAreCut() {
        says("cut to a whole number");
        // BONDS of (7, 1) are 28, 110, 110, 110, 28: the greatest value is 76 itself
        x.plate(5, 5, 5, 5);
        due("76 itself", x.tone(0, 7, 1, 3), 76);
        due("76 by 2", x.tone(0, 7, 2, 3), 38);
        due("76 by 3", x.tone(0, 7, 3, 3), 25);
        due("76 by 4", x.tone(0, 7, 4, 3), 19);
        // 0.43, 2, 4.56, 7
        x.plate(1, 1, 1, 1);
        due("0.43", x.tone(1, 8, 1, 0), 0);
        due("2 itself", x.tone(1, 8, 1, 1), 2);
        due("2 by 2", x.tone(1, 8, 2, 1), 1);
        due("2 by 3", x.tone(1, 8, 3, 1), 0);
        due("7 by 7", x.tone(1, 8, 7, 3), 1);
        due("7 by 8", x.tone(1, 8, 8, 3), 0);
    }

    private static void valuesBelow() {
        says("BELOW x (a whole number, 0 .. 500): how many of these are less than x");
        x.plate(5, 5, 5, 5);
        due("below -1", x.below(0, 7, 1, -1), BAD);
        due("below 0", x.below(0, 7, 1, 0), 0);
        due("below 75", x.below(0, 7, 1, 75), 3);
        due("below 76 itself", x.below(0, 7, 1, 76), 3);
        due("below 77", x.below(0, 7, 1, 77), 4);
        due("below 38 itself, of weight 2", x.below(0, 7, 2, 38), 3);
        due("below 39, of weight 2", x.below(0, 7, 2, 39), 4);
        due("below 500", x.below(0, 7, 1, 500), 4);
        due("below 501", x.below(0, 7, 1, 501), BAD);
        due("below 500 of the heaviest", x.below(0, 9, 9, 500), 4);
        // all values are above 0: 0.005, 0.02, 0.03, 0.04 by 9
        x.plate(1, 1, 1, 1);
        due("below 0 of the least values", x.below(1, 1, 9, 0), 0);
        due("below 1 of the least values", x.below(1, 1, 9, 1), 4);
        // 0.38, 1.38, 2.61, 3.61
        for (int v = 0; v <= 4; v++) due("below " + v + " of (1, 1)", x.below(1, 1, 1, v), v);
    }

    // ---- 2: plates, taps, woods

    private static void platesAtMost() {
        says("PLATES are numbered from 0, 4 at most");
        due("plate 0 of none", x.thick(0, 0), BAD);
        for (int i = 0; i < 4; i++) {
            due("plate " + i, x.plate(i + 1, 5, 5, 9 - i), i);
            due("strip 0 of " + i, x.thick(i, 0), i + 1);
            due("strip 3 of " + i, x.thick(i, 3), 9 - i);
            due("plate " + (i + 1) + " is not yet", x.thick(i + 1, 0), BAD);
        }
        due("a fifth", x.plate(5, 5, 5, 5), FULL);
        due("plates", x.count(0), 4);
        due("plate 4", x.thick(4, 0), BAD);
        due("plate -1", x.thick(-1, 0), BAD);
        dueStrips("the first", 0, 1, 5, 5, 9);
        dueStrips("the last", 3, 4, 5, 5, 6);
    }

    private static void tapsAtMost() {
        says("TAPS (12 at most)");
        x.plate(9, 9, 9, 9);
        for (int i = 0; i < 12; i++) due("tap " + i, x.tap(0, 3, i, 500), i);
        int left = x.woods();
        due("tap 12", x.tap(0, 3, 315, 315), FULL);
        due("taps", x.count(1), 12);
        due("woods", x.woods(), left);
        due("untap 12", x.untap(12), BAD);
        due("untap 11", x.untap(11), 1);
        due("tap 11 again", x.tap(0, 3, 315, 315), 11);
        due("woods", x.woods(), 1);
        due("tap 12 again", x.tap(0, 3, 0, 500), FULL);
    }

    private static void tapsOfPlatesAsTheyWere() {
        says("of a PLATE as its THICKNESSES were then");
        x.plate(9, 8, 7, 6);
        x.tap(0, 3, 40, 60);
        int left = x.woods();
        x.shave(0, 1);
        due("woods behind a shaving", x.woods(), left);
        x.undo(0);
        due("woods behind one undone", x.woods(), left);
        x.mirror(0);
        due("woods behind a mirror", x.woods(), left);
        x.aim(3, 0, 20);
        due("carve", x.carve(0), 5);
        due("woods behind a carve", x.woods(), left);
        x.tap(0, 3, 40, 60);
        due("woods by a tap of what it is now", x.woods(), 0);
        x.untap(0);
        due("woods by that tap alone", x.woods(), 3);
    }

    private static void tapsNotBelowNotAbove() {
        says("TONE k was not below one number and not above another one");
        x.plate(5, 5, 5, 5);
        // TONE 3 of (7, 1) is 76; of (6, 1) 64, of (8, 1) 87
        x.tap(0, 3, 65, 86);
        due("between its neighbours", x.woods(), 1);
        due("stiffness", x.wood(0, 0), 7);
        due("weight", x.wood(0, 1), 1);
        x.tap(0, 3, 76, 500);
        due("not below 76", x.woods(), 1);
        x.tap(0, 3, 0, 76);
        due("not above 76", x.woods(), 1);
        x.tap(0, 3, 76, 76);
        due("76 alone", x.woods(), 1);
        x.tap(0, 3, 77, 500);
        due("not below 77", x.woods(), 0);
        x.untap(4);
        due("woods again", x.woods(), 1);
        x.tap(0, 3, 0, 75);
        due("not above 75", x.woods(), 0);
    }

    private static void woodsLeft() {
        says("WOODS LEFT are all (s, w) with such TONES for all TAPS");
        due("no taps", x.woods(), 81);
        x.plate(9, 9, 9, 9);
        due("the widest", x.tap(0, 3, 0, 500), 0);
        due("all", x.woods(), 81);
        x.tap(0, 3, 3, 315);
        due("from the least to the greatest", x.woods(), 81);
        x.tap(0, 3, 4, 315);
        due("without the least", x.woods(), 80);
        x.tap(0, 3, 3, 314);
        due("without the least and the greatest", x.woods(), 79);
        x.tap(0, 3, 0, 0);
        due("none", x.woods(), 0);
        due("a tap for no wood", x.tap(0, 3, 500, 500), 5);
        due("none", x.woods(), 0);
        due("wood 0 of none", x.wood(0, 0), BAD);
    }

    private static void woodsStand() {
        says("they stand by s, then w");
        due("wood -1", x.wood(-1, 0), BAD);
        for (int i = 0; i < 81; i += 8) due("wood " + i, x.wood(i, 0) * 10 + x.wood(i, 1), (i / 9 + 1) * 10 + i % 9 + 1);
        due("wood 81", x.wood(81, 0), BAD);
        due("what -1", x.wood(0, -1), BAD);
        due("what 2", x.wood(0, 2), BAD);
        x.plate(9, 9, 9, 9);
        x.tap(0, 3, 52, 63);
        int[] left = {32, 53, 64, 74, 85, 95, 96};
        due("woods", x.woods(), 7);
        for (int i = 0; i < 7; i++) due("wood " + i, x.wood(i, 0) * 10 + x.wood(i, 1), left[i]);
        due("wood 7", x.wood(7, 1), BAD);
    }

    private static void sureSpan() {
        says("SURE SPAN of a TONE of a PLATE: from the least to the greatest that it is by WOODS LEFT");
        x.plate(9, 9, 9, 9);
        due("the least", x.span(0, 3, 0), 3);
        due("the greatest", x.span(0, 3, 1), 315);
        due("way -1", x.span(0, 3, -1), BAD);
        due("way 2", x.span(0, 3, 2), BAD);
        x.tap(0, 3, 315, 315);
        due("the least of one wood", x.span(0, 3, 0), 315);
        due("the greatest of one wood", x.span(0, 3, 1), 315);
        due("another tone of it", x.span(0, 0, 0), 10);
        x.shave(0, 0);
        due("as the plate is now", x.span(0, 0, 0), 9);
        x.tap(0, 3, 0, 0);
        due("no wood", x.span(0, 3, 0), NOT);
    }

    private static void sureSpanOfTheLeast() {
        says("from the least to the greatest that it is by WOODS LEFT: the least stiff, the heaviest alone");
        x.plate(9, 9, 9, 9);
        x.tap(0, 3, 3, 3);
        due("woods", x.woods(), 1);
        due("stiffness", x.wood(0, 0), 1);
        due("weight", x.wood(0, 1), 9);
        int[] tones = {0, 0, 2, 3};
        for (int k = 0; k < 4; k++) {
            due("the least of tone " + k, x.span(0, k, 0), tones[k]);
            due("the greatest of tone " + k, x.span(0, k, 1), tones[k]);
        }
    }

    private static void nextTap() {
        says("WOODS LEFT fall into heaps of one number so that the greatest heap is the least");
        x.plate(9, 9, 9, 9);
        due("the tone", x.next(0, 0), 3);
        due("its greatest heap", x.next(0, 1), 6);
        due("what -1", x.next(0, -1), BAD);
        due("what 2", x.next(0, 2), BAD);
        x.tap(0, 3, 315, 315);
        due("one wood", x.next(0, 0), 0);
        due("a heap of one", x.next(0, 1), 1);
        x.tap(0, 3, 0, 0);
        due("no wood", x.next(0, 0), NOT);
        due("no heap", x.next(0, 1), NOT);
    }

    private static void nextTapOfSeveral() {
        says("of several the least k");
        // heaps 36, 9, 9, 9 and 45, 10, 9, 9
        x.plate(9, 9, 9, 8);
        x.plate(9, 9, 9, 7);
        due("of 1, 2, 3", x.next(0, 0), 1);
        due("their heap", x.next(0, 1), 9);
        due("of 2, 3", x.next(1, 0), 2);
        due("their heap", x.next(1, 1), 9);
        x.plate(1, 1, 1, 1);
        due("3 alone, the last", x.next(2, 0), 3);
        due("its heap", x.next(2, 1), 46);
        // (8, 1) and (9, 1) have all BONDS alike
        x.tap(2, 3, 7, 7);
        due("of all", x.next(2, 0), 0);
        due("their heap", x.next(2, 1), 2);
    }

    // ---- 3: shavings, plans, pairs

    private static void leastAtFirst() {
        says("LEAST (1 .. 9; 2 at first");
        due("least(0)", x.least(0), BAD);
        due("least(10)", x.least(10), BAD);
        due("least(1)", x.least(1), 2);
        due("least(9)", x.least(9), 1);
        due("least(9) again", x.least(9), 9);
        due("least(1) again", x.least(1), 9);
    }

    private static void leastOfShavings() {
        says("NOT: it would come below LEAST");
        x.plate(3, 2, 1, 9);
        due("3 by 2", x.shave(0, 0), 2);
        due("2 by 2", x.shave(0, 0), NOT);
        due("1 by 2", x.shave(0, 2), NOT);
        x.least(1);
        due("2 by 1", x.shave(0, 0), 1);
        due("1 by 1", x.shave(0, 0), NOT);
        x.least(9);
        due("9 by 9", x.shave(0, 3), NOT);
        x.least(8);
        due("9 by 8", x.shave(0, 3), 8);
        due("8 by 8", x.shave(0, 3), NOT);
        dueStrips("shaved", 0, 1, 2, 1, 8);
    }

    private static void leastOfPlans() {
        says("a row of SHAVINGS by which no STRIP comes below LEAST");
        // what 8888 has: nothing above it within 8 .. 9 has the same
        x.plate(9, 9, 9, 9);
        x.aim(0, 0, 8);
        x.aim(1, 0, 57);
        x.aim(2, 1, 153);
        x.aim(3, 3, 249);
        x.least(9);
        due("none can be shaved", x.plan(0), NONE);
        due("no shaving", x.planned(0, 0), NONE);
        due("not carved", x.carve(0), NOT);
        x.least(8);
        duePlan("all down to LEAST", 0, "0123");
        due("carve", x.carve(0), 4);
        dueStrips("carved", 0, 8, 8, 8, 8);
        duePlan("there", 0, "");
    }

    private static void leastOfPlansByStrip() {
        says("no STRIP comes below LEAST: each of them");
        x.plate(2, 5, 5, 5);
        x.plate(5, 2, 5, 5);
        x.plate(5, 5, 2, 5);
        x.plate(5, 5, 5, 2);
        x.aim(1, 0, 4);
        x.least(1);
        duePlan("0 may come to 1", 0, "0");
        duePlan("1 may come to 1", 1, "1");
        duePlan("2 may come to 1", 2, "2");
        duePlan("3 may come to 1", 3, "3");
        x.least(2);
        duePlan("0 is at LEAST", 0, "111");
        duePlan("1 is at LEAST", 1, "00");
        duePlan("2 is at LEAST", 2, "33");
        duePlan("3 is at LEAST", 3, "222");
        x = new FiddlePlates();
        x.plate(2, 3, 3, 3);
        x.plate(3, 2, 3, 3);
        x.plate(3, 3, 2, 3);
        x.plate(3, 3, 3, 2);
        x.aim(1, 0, 3);
        for (int i = 0; i < 4; i++) due("without " + i, x.plan(i), NONE);
        x.least(1);
        for (int i = 0; i < 4; i++) duePlan("with " + i, i, String.valueOf(i));
    }

    private static void plansOfStripsBelowLeast() {
        says("one that is below it already is not shaved");
        x.plate(5, 5, 2, 5);
        x.aim(1, 0, 4);
        x.least(1);
        duePlan("above LEAST", 0, "2");
        x.least(2);
        duePlan("at LEAST", 0, "33");
        x.least(3);
        duePlan("below LEAST", 0, "33");
        x.least(4);
        due("the others have not so much", x.plan(0), NONE);
        x.plate(1, 1, 1, 1);
        x.least(9);
        x.aimless();
        x.aim(3, 0, 7);
        duePlan("all are below LEAST, and it is met", 1, "");
        x.aim(3, 0, 6);
        due("all are below LEAST", x.plan(1), NONE);
    }

    private static void spansOfAims() {
        says("The span of TONE k (0 .. 500, from not above to)");
        due("from -1", x.aim(0, -1, 0), BAD);
        due("to 501", x.aim(0, 500, 501), BAD);
        due("from above to by one", x.aim(0, 1, 0), BAD);
        due("the least", x.aim(0, 0, 0), 1);
        due("the greatest", x.aim(1, 500, 500), 1);
        due("the widest", x.aim(2, 0, 500), 1);
        due("spans", x.count(2), 3);
        x.aimless();
        // TONE 3 of 5555 is from 1 to 97; to and from are within
        x.plate(5, 5, 5, 5);
        x.least(5);
        x.aim(3, 1, 97);
        due("the very span", x.plan(0), 0);
        x.aim(3, 2, 97);
        due("from too great by one", x.plan(0), NONE);
        x.aim(3, 1, 96);
        due("to too small by one", x.plan(0), NONE);
        x.aim(3, 0, 500);
        due("the widest", x.plan(0), 0);
    }

    private static void spansOfSomeTones() {
        says("all TONES with a span lie in it");
        // by all WOODS 5555 is from 0, 0, 0, 1 to 3, 22, 60, 97
        int[] to = {3, 22, 60, 97};
        x.plate(5, 5, 5, 5);
        x.least(5);
        for (int k = 0; k < 4; k++) {
            x.aim(k, 0, to[k]);
            due("tone " + k + " too", x.plan(0), 0);
        }
        due("spans", x.count(2), 4);
        for (int k = 0; k < 4; k++) {
            x.aim(k, 0, to[k] - 1);
            due("tone " + k + " alone is not within", x.plan(0), NONE);
            x.aim(k, 0, to[k]);
        }
        due("spans, each put anew", x.count(2), 4);
        due("all again", x.plan(0), 0);
    }

    private static void plansForAllWoodsLeft() {
        says("behind which for all WOODS LEFT all TONES with a span lie in it");
        x.plate(5, 5, 5, 5);
        x.least(5);
        x.aim(3, 76, 76);
        due("all woods", x.plan(0), NONE);
        x.tap(0, 3, 64, 86);
        due("two woods", x.plan(0), NONE);
        x.tap(0, 3, 65, 97);
        due("one wood", x.plan(0), 0);
        x.untap(0);
        due("three woods", x.plan(0), NONE);
        x.tap(0, 3, 0, 0);
        due("no wood", x.plan(0), NOT);
    }

    private static void thePlanIsTheShortest() {
        says("THE PLAN is one with the fewest SHAVINGS");
        // TONE 3 of 5555 is 97; with one off 89 or 72 at most, with two 57 at best
        x.plate(5, 5, 5, 5);
        x.aim(3, 0, 97);
        due("none, just met", x.plan(0), 0);
        x.aim(3, 0, 96);
        due("one", x.plan(0), 1);
        x.aim(3, 0, 72);
        due("one, just met", x.plan(0), 1);
        x.aim(3, 0, 71);
        due("two", x.plan(0), 2);
        dueStrips("a plan takes nothing off", 0, 5, 5, 5, 5);
    }

    private static void thePlanOfSeveral() {
        says("of several the one whose THICKNESSES at the end are greatest for STRIP 0, then 1, then 2");
        x.plate(9, 9, 9, 9);
        x.aim(1, 0, 68);
        duePlan("any of all", 0, "3");
        x.aim(1, 0, 59);
        duePlan("1 or 2", 0, "2");
        x.aimless();
        x.aim(0, 0, 9);
        duePlan("0 or 3", 0, "3");
        x.aimless();
        x.plate(9, 9, 9, 6);
        x.aim(2, 0, 108);
        duePlan("0 or 1", 1, "1");
        x.aimless();
        x.plate(9, 9, 8, 9);
        x.aim(3, 0, 236);
        duePlan("0 or 2", 2, "2");
        x.aimless();
        // 8986 too, but STRIP 0 goes ahead of STRIP 1
        x.aim(3, 0, 211);
        duePlan("0 and 2, or 1 twice", 1, "11");
        // 7985 and 8975 too
        x.plate(9, 9, 8, 5);
        x.aim(3, 0, 181);
        duePlan("0 twice, or 0 and 2, or 1 twice", 3, "11");
    }

    private static void thePlanGoesByStrips() {
        says("In it STRIP 0 is shaved first, then 1, and so on");
        x.plate(9, 9, 9, 9);
        x.least(1);
        x.aim(3, 0, 5);
        duePlan("21 shavings", 0, "000001111111133333333");
        x.aim(3, 0, 4);
        duePlan("22 shavings", 0, "0000001111111133333333");
        due("more than a LOG has", x.carve(0), FULL);
    }

    private static void noSpans() {
        says("all TONES with a span: there is none");
        x.plate(9, 9, 9, 9);
        x.plate(1, 1, 1, 1);
        duePlan("the thickest", 0, "");
        duePlan("below LEAST", 1, "");
        due("carve", x.carve(0), 0);
        due("shavings", x.count(3), 0);
    }

    private static void logOfEachPlate() {
        says("SHAVED STRIPS stand in a LOG of each PLATE (SHAVINGS alone)");
        for (int p = 0; p < 4; p++) x.plate(9, 9, 9, 9);
        due("plates are no shavings", x.count(3), 0);
        for (int p = 0; p < 4; p++) {
            shaveOften(p, 0, 7);
            shaveOften(p, 1, 7);
            shaveOften(p, 2, 6);
        }
        due("all four are full", x.count(3), 80);
        for (int p = 0; p < 4; p++) due("one more for " + p, x.shave(p, 3), FULL);
        due("the latest of 2", x.undo(2), 2);
        due("one less", x.count(3), 79);
        due("0 is full still", x.shave(0, 3), FULL);
        due("2 has room", x.shave(2, 3), 8);
        due("the latest of 3", x.undo(3), 2);
    }

    private static void logIsFull() {
        says("FULL: the LOG has 20");
        x.least(1);
        x.plate(9, 9, 9, 9);
        shaveOften(0, 0, 8);
        shaveOften(0, 1, 8);
        shaveOften(0, 2, 3);
        due("19", x.count(3), 19);
        due("the 20th", x.shave(0, 2), 5);
        due("the 21st", x.shave(0, 2), FULL);
        due("the 21st, another strip", x.shave(0, 3), FULL);
        due("a strip at LEAST", x.shave(0, 0), NOT);
        dueStrips("20 off", 0, 1, 1, 5, 9);
        due("20", x.count(3), 20);
        int[] latest = {2, 2, 2, 2, 1, 1, 1, 1, 1, 1, 1, 1, 0, 0, 0, 0, 0, 0, 0, 0};
        for (int i = 0; i < 20; i++) due("undone " + i, x.undo(0), latest[i]);
        due("no more", x.undo(0), NOT);
        dueStrips("all put back", 0, 9, 9, 9, 9);
    }

    private static void undone() {
        says("UNDONE: the latest is put back; NOT: the LOG is empty");
        x.plate(9, 9, 9, 9);
        due("an empty LOG", x.undo(0), NOT);
        x.shave(0, 3);
        x.shave(0, 0);
        due("the latest", x.undo(0), 0);
        dueStrips("the first stands", 0, 9, 9, 9, 8);
        due("the first", x.undo(0), 3);
        due("an empty LOG again", x.undo(0), NOT);
        dueStrips("as laid", 0, 9, 9, 9, 9);
        due("plate 1", x.undo(1), BAD);
        due("plate -1", x.undo(-1), BAD);
    }

    private static void undoneAsLeastIsNow() {
        says("UNDONE: the latest is put back, also below LEAST");
        x.least(1);
        x.plate(3, 3, 3, 3);
        shaveOften(0, 2, 2);
        x.least(9);
        due("up to 2", x.undo(0), 2);
        due("up to 3", x.undo(0), 2);
        dueStrips("as laid", 0, 3, 3, 3, 3);
    }

    private static void mirrored() {
        says("MIRRORED: STRIPS 3, 2, 1, 0 in place of 0, 1, 2, 3 (the LOG goes)");
        x.plate(6, 7, 8, 9);
        x.plate(9, 9, 9, 9);
        due("an empty LOG", x.mirror(0), 1);
        dueStrips("mirrored", 0, 9, 8, 7, 6);
        shaveOften(1, 0, 7);
        shaveOften(1, 1, 7);
        shaveOften(1, 2, 6);
        due("full", x.shave(1, 3), FULL);
        due("a full LOG", x.mirror(1), 1);
        dueStrips("mirrored", 1, 9, 3, 2, 2);
        due("shavings", x.count(3), 0);
        due("nothing to undo", x.undo(1), NOT);
        due("room again", x.shave(1, 0), 8);
        due("shavings", x.count(3), 1);
        due("plate 2", x.mirror(2), BAD);
        due("plate -1", x.mirror(-1), BAD);
    }

    private static void even() {
        says("EVEN, if for all WOODS LEFT their TONES 0 differ by OFF at most");
        // by (9, 1), where they differ most, TONES 0 are 10, 3 and 11
        x.plate(9, 9, 9, 9);
        x.plate(5, 5, 5, 5);
        x.plate(9, 4, 5, 9);
        x.off(7);
        due("7 by 7", x.even(0, 1), 1);
        due("7 by 7 the other way", x.even(1, 0), 1);
        x.off(6);
        due("7 by 6", x.even(0, 1), 0);
        due("7 by 6 the other way", x.even(1, 0), 0);
        x.off(1);
        due("1 by 1", x.even(0, 2), 1);
        x.off(0);
        due("1 by 0", x.even(0, 2), 0);
        due("one and itself by 0", x.even(0, 0), 1);
        x.tap(0, 0, 0, 0);
        due("by woods left alone", x.even(0, 1), 1);
        x.tap(0, 0, 1, 500);
        due("no wood", x.even(0, 1), NOT);
        due("no wood, one and itself", x.even(0, 0), NOT);
        due("plate 3", x.even(0, 3), BAD);
        due("plate -1", x.even(-1, 0), BAD);
    }

    private static void evenByOneWood() {
        says("EVEN, if for all WOODS LEFT: one alone, and the last of several");
        x.plate(9, 9, 9, 9);
        x.plate(1, 1, 1, 1);
        x.off(9);
        x.tap(0, 3, 315, 315);
        due("woods", x.woods(), 1);
        due("10 by 9", x.even(0, 1), 0);
        x.off(10);
        due("10 by 10", x.even(0, 1), 1);
        x.untap(0);
        // (7, 1), (8, 1), (9, 1): 8, 9, 10 apart
        x.tap(0, 0, 8, 500);
        x.off(9);
        due("the last is too far", x.even(0, 1), 0);
        x.off(1);
        x.tap(0, 3, 35, 35);
        due("no wood", x.even(0, 1), NOT);
        x.untap(0);
        due("woods, all of 1", x.woods(), 6);
        due("1 by 1", x.even(0, 1), 1);
        x.off(0);
        due("1 by 0", x.even(0, 1), 0);
    }

    private static void offAtFirst() {
        says("OFF (0 .. 200; 5 at first)");
        // TONES 0 by (9, 1) are 10, 5, 4
        x.plate(9, 9, 9, 9);
        x.plate(6, 6, 6, 8);
        x.plate(6, 6, 6, 6);
        due("5 by 5", x.even(0, 1), 1);
        due("6 by 5", x.even(0, 2), 0);
        due("off(-1)", x.off(-1), BAD);
        due("off(201)", x.off(201), BAD);
        due("off(200)", x.off(200), 5);
        due("any pair", x.even(0, 2), 1);
        due("off(0)", x.off(0), 200);
        due("off(0) again", x.off(0), 0);
    }

    // ---- the promises' own words

    private static void newObject() {
        says("No PLATES, TAPS, AIMS");
        for (int what = 0; what < 4; what++) due("count " + what, x.count(what), 0);
        due("plate 0", x.thick(0, 0), BAD);
        due("tap 0", x.untap(0), BAD);
        due("spans", x.aimless(), 0);
        due("woods", x.woods(), 81);
    }

    private static void untapped() {
        says("A TAP is no more (those behind it get a number less)");
        due("tap 0 of none", x.untap(0), BAD);
        x.plate(9, 9, 9, 9);
        x.tap(0, 3, 4, 500);
        x.tap(0, 3, 0, 314);
        x.tap(0, 3, 0, 0);
        due("none", x.woods(), 0);
        due("tap -1", x.untap(-1), BAD);
        due("tap 3", x.untap(3), BAD);
        due("the first", x.untap(0), 1);
        due("tap 2 is no more", x.untap(2), BAD);
        due("none still", x.woods(), 0);
        due("the last, one less", x.untap(1), 1);
        due("by the one that is left", x.woods(), 80);
        due("not the greatest", x.wood(79, 0) * 10 + x.wood(79, 1), 99);
        due("that one", x.untap(0), 1);
        due("all", x.woods(), 81);
        due("no more", x.untap(0), BAD);
        due("the next has number 0", x.tap(0, 3, 0, 500), 0);
    }

    private static void tappedAgain() {
        says("A TAP is no more: one that comes then leaves the others as they are");
        x.plate(9, 9, 9, 9);
        x.tap(0, 3, 4, 500);
        x.tap(0, 3, 5, 500);
        x.tap(0, 3, 0, 314);
        due("from 5 to 314", x.woods(), 78);
        due("the first", x.untap(0), 1);
        due("from 5 to 314 still", x.woods(), 78);
        due("another", x.tap(0, 3, 0, 279), 2);
        due("from 5 to 279", x.woods(), 77);
        due("that one", x.untap(2), 1);
        due("from 5 to 314 again", x.woods(), 78);
        due("the first", x.untap(0), 1);
        due("to 314", x.woods(), 80);
        due("the last", x.untap(0), 1);
        due("all", x.woods(), 81);
    }

    private static void planned() {
        says("NONE: it has not so many, or there is none. BAD: also i below 0");
        x.plate(5, 5, 5, 5);
        x.aim(3, 0, 62);
        due("planned -1", x.planned(0, -1), BAD);
        due("planned 0", x.planned(0, 0), 1);
        due("planned 1", x.planned(0, 1), 3);
        due("planned 2", x.planned(0, 2), NONE);
        due("planned far", x.planned(0, Integer.MAX_VALUE), NONE);
        due("planned far below", x.planned(0, Integer.MIN_VALUE), BAD);
        x.aim(3, 500, 500);
        due("there is none", x.planned(0, 0), NONE);
        due("there is none, far", x.planned(0, Integer.MAX_VALUE), NONE);
        due("there is none, and below 0", x.planned(0, -1), BAD);
        x.tap(0, 0, 500, 500);
        due("no wood", x.planned(0, 0), NOT);
        due("no wood, far", x.planned(0, Integer.MAX_VALUE), NOT);
        due("no wood, and below 0", x.planned(0, -1), BAD);
    }

    private static void plannedAsAllIsNow() {
        says("The STRIP of SHAVING i of THE PLAN (as all is now)");
        x.plate(9, 9, 9, 9);
        x.aim(1, 0, 68);
        due("strip 3", x.planned(0, 0), 3);
        x.shave(0, 0);
        due("met by a shaving", x.planned(0, 0), NONE);
        x.undo(0);
        due("undone", x.planned(0, 0), 3);
        x.aim(1, 0, 59);
        due("another span", x.planned(0, 0), 2);
        x.aim(1, 0, 60);
        x.least(9);
        due("another LEAST", x.planned(0, 0), NONE);
        x.least(8);
        due("LEAST again", x.planned(0, 0), 2);
        x.tap(0, 1, 0, 60);
        due("fewer woods", x.planned(0, 0), NONE);
        x.untap(0);
        due("all woods", x.planned(0, 0), 2);
        x.aimless();
        due("no spans", x.planned(0, 0), NONE);
        x.plate(5, 5, 2, 5);
        x.least(1);
        x.aim(1, 0, 4);
        due("another plate", x.planned(1, 0), 2);
        x.mirror(1);
        due("mirrored", x.planned(1, 0), 1);
        due("carve", x.carve(1), 1);
        due("carved", x.planned(1, 0), NONE);
    }

    private static void carved() {
        says("All SHAVINGS of THE PLAN are made: how many. NOT: also there is no PLAN");
        due("no plate", x.carve(0), BAD);
        x.plate(5, 5, 5, 5);
        x.aim(3, 0, 62);
        due("two", x.carve(0), 2);
        dueStrips("carved", 0, 5, 4, 5, 4);
        due("in the LOG", x.count(3), 2);
        due("the empty plan", x.carve(0), 0);
        due("nothing more", x.count(3), 2);
        x.aim(3, 500, 500);
        due("no plan", x.carve(0), NOT);
        dueStrips("not carved", 0, 5, 4, 5, 4);
        due("the latest", x.undo(0), 3);
        due("the first", x.undo(0), 1);
        x.aimless();
        x.tap(0, 0, 500, 500);
        due("no wood", x.carve(0), NOT);
    }

    private static void carvedIntoTheLog() {
        says("FULL: the LOG would have more than 20");
        x.least(1);
        x.plate(9, 9, 9, 9);
        shaveOften(0, 0, 6);
        shaveOften(0, 1, 6);
        shaveOften(0, 2, 6);
        dueStrips("18 off", 0, 3, 3, 3, 9);
        // TONE 3 comes to 35; to 23 with two off STRIP 2, and to 22 with one off STRIP 3 too
        x.aim(3, 0, 22);
        due("three", x.plan(0), 3);
        due("21", x.carve(0), FULL);
        due("18 still", x.count(3), 18);
        x.aim(3, 0, 23);
        due("two", x.plan(0), 2);
        due("20", x.carve(0), 2);
        due("20 in the LOG", x.count(3), 20);
        due("an empty plan for a full LOG", x.carve(0), 0);
        x.aim(3, 0, 22);
        due("one", x.plan(0), 1);
        due("one for a full LOG", x.carve(0), FULL);
        x.undo(0);
        due("and two for one of 19", x.carve(0), FULL);
        due("19", x.count(3), 19);
    }

    private static void aimless() {
        says("No spans any more: how many there were");
        due("none", x.aimless(), 0);
        for (int k = 0; k < 4; k++) x.aim(k, 0, 500);
        x.aim(3, 1, 499);
        due("all four", x.aimless(), 4);
        due("none again", x.aimless(), 0);
        x.aim(3, 500, 500);
        due("a refused one", x.aim(0, 500, 499), BAD);
        due("one", x.aimless(), 1);
        x.plate(9, 9, 9, 9);
        due("no span shuts anything out", x.plan(0), 0);
    }

    private static void counts() {
        says("0 PLATES, 1 TAPS, 2 spans of AIMS, 3 SHAVINGS in all LOGS. BAD.");
        due("count(-1)", x.count(-1), BAD);
        due("count(4)", x.count(4), BAD);
        x.plate(9, 9, 9, 9);
        x.plate(9, 9, 9, 9);
        for (int i = 0; i < 3; i++) x.tap(1, 0, 0, 500);
        for (int k = 0; k < 4; k++) x.aim(k, 0, 500);
        shaveOften(0, 0, 2);
        shaveOften(1, 3, 3);
        for (int what = 0; what < 4; what++) due("count " + what, x.count(what), what + 2);
        due("count(-1)", x.count(-1), BAD);
        due("count(4)", x.count(4), BAD);
    }

    private static void lastOfAllCalls() {
        says("An object is used for at most 512 calls");
        x.plate(9, 9, 9, 9);
        x.least(1);
        for (int i = 0; i < 254; i++) {
            due("call " + (2 * i + 3), x.shave(0, i % 4), 8);
            due("call " + (2 * i + 4), x.undo(0), i % 4);
        }
        due("call 511", x.plan(0), 0);
        due("call 512", x.count(3), 0);
    }
}
