/** Each promise of the document by its number: ordinary inputs, its edges, wrong inputs. */
public final class PromisesTest {
    private static final int NONE = -1, BAD = -2, NOT = -3, FULL = -4;
    private static final int LEAST_INT = Integer.MIN_VALUE, GREATEST_INT = Integer.MAX_VALUE;

    private static int promise = 0;
    private static int wrong = 0;
    private static FiddlePlates x;

    public static void main(String[] args) {
        newObject();
        plate();
        thick();
        least();
        shave();
        undo();
        mirror();
        tone();
        below();
        bond();
        tap();
        untap();
        woods();
        wood();
        span();
        next();
        aim();
        aimless();
        plan();
        planOfSeveral();
        planned();
        plannedAsAllIsNow();
        carve();
        off();
        even();
        count();
        System.out.println(wrong == 0 ? "all promises hold" : wrong + " answers are not as due");
        if (wrong != 0) System.exit(1);
    }

    private static void start(int number) {
        promise = number;
        x = new FiddlePlates();
    }

    private static void due(String call, int got, int want) {
        if (got != want) {
            wrong++;
            System.out.println("promise " + promise + ": " + call + " answered " + got + ", due is " + want);
        }
    }

    private static void dueStrips(String after, int plate, int a, int b, int c, int d) {
        due(after + ": strip 0", x.thick(plate, 0), a);
        due(after + ": strip 1", x.thick(plate, 1), b);
        due(after + ": strip 2", x.thick(plate, 2), c);
        due(after + ": strip 3", x.thick(plate, 3), d);
    }

    private static void dueCounts(String after, int plates, int taps, int spans, int shavings) {
        due(after + ": plates", x.count(0), plates);
        due(after + ": taps", x.count(1), taps);
        due(after + ": spans", x.count(2), spans);
        due(after + ": shavings", x.count(3), shavings);
    }

    /** A TAP that no WOOD fits: no TONE comes to 500. */
    private static int tapOfNoWood(int plate) {
        return x.tap(plate, 0, 500, 500);
    }

    private static void newObject() {
        start(1);
        dueCounts("new", 0, 0, 0, 0);
        due("woods", x.woods(), 81);
        due("aimless", x.aimless(), 0);
        due("least at first", x.least(3), 2);
        due("off at first", x.off(6), 5);
        FiddlePlates other = new FiddlePlates();
        x.plate(9, 9, 9, 9);
        x.tap(0, 0, 1, 1);
        due("plates of another", other.count(0), 0);
        due("woods of another", other.woods(), 81);
        due("least of another", other.least(2), 2);
        due("NONE", FiddlePlates.NONE, -1);
        due("BAD", FiddlePlates.BAD, -2);
        due("NOT", FiddlePlates.NOT, -3);
        due("FULL", FiddlePlates.FULL, -4);
    }

    private static void plate() {
        start(2);
        int[] bad = {0, 10, -1, LEAST_INT, GREATEST_INT};
        for (int v : bad) {
            due("plate(" + v + ", ..)", x.plate(v, 5, 5, 5), BAD);
            due("plate(., " + v + ", ..)", x.plate(5, v, 5, 5), BAD);
            due("plate(., ., " + v + ", .)", x.plate(5, 5, v, 5), BAD);
            due("plate(.., " + v + ")", x.plate(5, 5, 5, v), BAD);
        }
        due("plates behind bad ones", x.count(0), 0);
        due("plate 0", x.plate(1, 2, 3, 4), 0);
        due("plate 1", x.plate(9, 8, 7, 6), 1);
        due("plate 2, below LEAST", x.plate(1, 1, 1, 1), 2);
        due("plate 3", x.plate(9, 9, 9, 9), 3);
        due("plate 4", x.plate(5, 5, 5, 5), FULL);
        due("a bad one ahead of FULL", x.plate(5, 5, 5, 0), BAD);
        due("plates", x.count(0), 4);
        dueStrips("plate 0", 0, 1, 2, 3, 4);
        dueStrips("plate 1", 1, 9, 8, 7, 6);
        dueStrips("plate 3", 3, 9, 9, 9, 9);
    }

    private static void thick() {
        start(3);
        due("no plates", x.thick(0, 0), BAD);
        x.plate(4, 3, 2, 1);
        dueStrips("plate", 0, 4, 3, 2, 1);
        due("plate -1", x.thick(-1, 0), BAD);
        due("plate 1", x.thick(1, 0), BAD);
        due("plate 4", x.thick(4, 0), BAD);
        due("plate far", x.thick(GREATEST_INT, 0), BAD);
        due("strip -1", x.thick(0, -1), BAD);
        due("strip 4", x.thick(0, 4), BAD);
        due("strip far", x.thick(0, LEAST_INT), BAD);
    }

    private static void least() {
        start(4);
        due("least(1)", x.least(1), 2);
        due("least(9)", x.least(9), 1);
        due("least(0)", x.least(0), BAD);
        due("least(10)", x.least(10), BAD);
        due("least(far)", x.least(LEAST_INT), BAD);
        due("least(4)", x.least(4), 9);
        due("least(4) again", x.least(4), 4);
        x.plate(5, 4, 3, 9);
        due("down to LEAST", x.shave(0, 0), 4);
        due("at LEAST", x.shave(0, 1), NOT);
        due("below LEAST", x.shave(0, 2), NOT);
        due("far above LEAST", x.shave(0, 3), 8);
    }

    private static void shave() {
        start(5);
        due("no plates", x.shave(0, 0), BAD);
        x.plate(9, 3, 2, 1);
        due("strip 1", x.shave(0, 1), 2);
        due("strip 1 again", x.shave(0, 1), NOT);
        due("strip 2", x.shave(0, 2), NOT);
        due("strip 3, below LEAST already", x.shave(0, 3), NOT);
        due("strip 4", x.shave(0, 4), BAD);
        due("strip -1", x.shave(0, -1), BAD);
        due("plate 1", x.shave(1, 0), BAD);
        due("plate -1", x.shave(-1, 0), BAD);
        dueStrips("shaved once", 0, 9, 2, 2, 1);
        due("shavings", x.count(3), 1);

        x.plate(9, 9, 9, 2);
        for (int i = 0; i < 20; i++) due("shaving " + i, x.shave(1, i % 3), 8 - i / 3);
        due("shaving 20", x.shave(1, 2), FULL);
        due("NOT ahead of FULL", x.shave(1, 3), NOT);
        due("BAD ahead of FULL", x.shave(1, 4), BAD);
        dueStrips("a full LOG", 1, 2, 2, 3, 2);
        due("another plate's LOG is its own", x.shave(0, 0), 8);
        due("shavings", x.count(3), 22);
        due("undo makes room", x.undo(1), 1);
        due("one more", x.shave(1, 2), 2);
        due("FULL again", x.shave(1, 1), FULL);
    }

    private static void undo() {
        start(6);
        due("no plates", x.undo(0), BAD);
        x.plate(9, 9, 9, 9);
        x.plate(5, 5, 5, 5);
        due("an empty LOG", x.undo(0), NOT);
        x.shave(0, 3);
        x.shave(0, 1);
        x.shave(1, 2);
        x.shave(0, 1);
        x.shave(0, 0);
        x.least(9);
        due("the latest", x.undo(0), 0);
        due("the one before", x.undo(0), 1);
        dueStrips("two undone", 0, 9, 8, 9, 8);
        due("shavings", x.count(3), 3);
        due("the next", x.undo(0), 1);
        due("the first", x.undo(0), 3);
        due("no more", x.undo(0), NOT);
        dueStrips("all undone", 0, 9, 9, 9, 9);
        dueStrips("the other plate", 1, 5, 5, 4, 5);
        due("plate 2", x.undo(2), BAD);
        due("plate -1", x.undo(-1), BAD);
    }

    private static void mirror() {
        start(7);
        due("no plates", x.mirror(0), BAD);
        x.plate(9, 8, 7, 6);
        x.plate(1, 2, 3, 4);
        x.shave(0, 0);
        x.shave(1, 3);
        due("mirror", x.mirror(0), 1);
        dueStrips("mirrored", 0, 6, 7, 8, 8);
        dueStrips("the other plate", 1, 1, 2, 3, 3);
        due("shavings", x.count(3), 1);
        due("its LOG is gone", x.undo(0), NOT);
        due("the other LOG stands", x.undo(1), 3);
        due("shave behind it", x.shave(0, 1), 6);
        due("undo behind it", x.undo(0), 1);
        due("mirror again", x.mirror(0), 1);
        dueStrips("twice", 0, 8, 8, 7, 6);
        due("plate 2", x.mirror(2), BAD);
        due("plate -1", x.mirror(-1), BAD);

        // TAPS are of the PLATE as it was
        x.tap(1, 1, 1, 1);
        int left = x.woods();
        x.mirror(1);
        due("woods", x.woods(), left);
    }

    private static void tone() {
        start(8);
        due("no plates", x.tone(0, 1, 1, 0), BAD);
        // values 2 less 2 cos of 36, 72, 108, 144 degrees: 0.38, 1.38, 2.61, 3.61
        x.plate(1, 1, 1, 1);
        for (int k = 0; k < 4; k++) due("tone " + k + " of (1, 1)", x.tone(0, 1, 1, k), k);
        due("tone 3 of (1, 2)", x.tone(0, 1, 2, 3), 1);
        due("tone 3 of (1, 3)", x.tone(0, 1, 3, 3), 1);
        due("tone 3 of (1, 4)", x.tone(0, 1, 4, 3), 0);
        // BONDS 1, 2, 2, 2, 1: values 0.43, 2, 4.56, 7, two of them whole
        due("tone 0 of (8, 1)", x.tone(0, 8, 1, 0), 0);
        due("tone 1 of (8, 1)", x.tone(0, 8, 1, 1), 2);
        due("tone 2 of (8, 1)", x.tone(0, 8, 1, 2), 4);
        due("tone 3 of (8, 1)", x.tone(0, 8, 1, 3), 7);
        due("tone 1 of (8, 2)", x.tone(0, 8, 2, 1), 1);
        due("tone 3 of (8, 7)", x.tone(0, 8, 7, 3), 1);
        due("tone 3 of (8, 8)", x.tone(0, 8, 8, 3), 0);
        x.plate(9, 9, 9, 9);
        due("the greatest", x.tone(1, 9, 1, 3), 315);
        x.plate(3, 9, 9, 3);
        due("tone 3 of 3993", x.tone(2, 9, 1, 3), PlainPlates.toneOf(new int[] {3, 9, 9, 3}, 9, 1, 3));

        int[] bad = {0, 10, -1, LEAST_INT, GREATEST_INT};
        for (int v : bad) {
            due("stiffness " + v, x.tone(0, v, 1, 0), BAD);
            due("weight " + v, x.tone(0, 1, v, 0), BAD);
        }
        due("tone -1", x.tone(0, 1, 1, -1), BAD);
        due("tone 4", x.tone(0, 1, 1, 4), BAD);
        due("plate 3", x.tone(3, 1, 1, 0), BAD);
        due("plate -1", x.tone(-1, 1, 1, 0), BAD);
    }

    private static void below() {
        start(9);
        due("no plates", x.below(0, 1, 1, 0), BAD);
        x.plate(1, 1, 1, 1);
        // values 0.43, 2, 4.56, 7: one that is x itself is not less than x
        int[] of81 = {0, 1, 1, 2, 2, 3, 3, 3, 4, 4};
        for (int v = 0; v < of81.length; v++) due("below " + v + " of (8, 1)", x.below(0, 8, 1, v), of81[v]);
        // by 7: 0.06, 0.28, 0.65, 1
        due("below 0 of (8, 7)", x.below(0, 8, 7, 0), 0);
        due("below 1 of (8, 7)", x.below(0, 8, 7, 1), 3);
        due("below 2 of (8, 7)", x.below(0, 8, 7, 2), 4);
        // a minor of 0 amid the others: values 0.38, 1.38, 2.61, 3.61
        due("below 1 of (1, 1)", x.below(0, 1, 1, 1), 1);
        due("below 2 of (1, 1)", x.below(0, 1, 1, 2), 2);
        x.plate(9, 9, 9, 9);
        due("below 315", x.below(1, 9, 1, 315), 3);
        due("below 316", x.below(1, 9, 1, 316), 4);
        due("below 500 of the heaviest", x.below(1, 9, 9, 500), 4);
        due("below 0", x.below(1, 9, 9, 0), 0);

        due("x 501", x.below(0, 1, 1, 501), BAD);
        due("x -1", x.below(0, 1, 1, -1), BAD);
        due("x far", x.below(0, 1, 1, GREATEST_INT), BAD);
        due("stiffness 0", x.below(0, 0, 1, 1), BAD);
        due("stiffness 10", x.below(0, 10, 1, 1), BAD);
        due("weight 0", x.below(0, 1, 0, 1), BAD);
        due("weight 10", x.below(0, 1, 10, 1), BAD);
        due("plate 2", x.below(2, 1, 1, 1), BAD);
        due("plate -1", x.below(-1, 1, 1, 1), BAD);
    }

    private static void bond() {
        start(10);
        due("no plates", x.bond(0, 1, 0), BAD);
        x.plate(4, 9, 2, 3);
        due("bond 0", x.bond(0, 7, 0), 7 * 64 / 32 + 1);
        due("bond 1", x.bond(0, 7, 1), 7 * 64 / 8 + 1);
        due("bond 2", x.bond(0, 7, 2), 7 * 8 / 8 + 1);
        due("bond 3", x.bond(0, 7, 3), 7 * 8 / 8 + 1);
        due("bond 4", x.bond(0, 7, 4), 5 + 1);
        due("bond 4, cut", x.bond(0, 1, 4), 1);
        x.plate(3, 3, 5, 9);
        due("bond 1, cut", x.bond(1, 1, 1), 3 + 1);
        due("bond 2, cut", x.bond(1, 1, 2), 3 + 1);
        due("bond 3, cut", x.bond(1, 1, 3), 15 + 1);
        due("bond 4 of 9", x.bond(1, 9, 4), 205 + 1);
        due("bond -1", x.bond(0, 1, -1), BAD);
        due("bond 5", x.bond(0, 1, 5), BAD);
        due("stiffness 0", x.bond(0, 0, 1), BAD);
        due("stiffness 10", x.bond(0, 10, 1), BAD);
        due("plate 2", x.bond(2, 1, 1), BAD);
        due("plate -1", x.bond(-1, 1, 1), BAD);
    }

    private static void tap() {
        start(11);
        due("no plates", x.tap(0, 0, 0, 500), BAD);
        x.plate(1, 1, 1, 1);
        due("tone -1", x.tap(0, -1, 0, 1), BAD);
        due("tone 4", x.tap(0, 4, 0, 1), BAD);
        due("low -1", x.tap(0, 0, -1, 1), BAD);
        due("high 501", x.tap(0, 0, 0, 501), BAD);
        due("low and high 501", x.tap(0, 0, 501, 501), BAD);
        due("low above high", x.tap(0, 0, 2, 1), BAD);
        due("plate 1", x.tap(1, 0, 0, 1), BAD);
        due("plate -1", x.tap(-1, 0, 0, 1), BAD);
        dueCounts("bad ones", 1, 0, 0, 0);
        due("woods", x.woods(), 81);

        // TONE 3 comes to 7 by (8, 1) and (9, 1) alone
        due("tap 0", x.tap(0, 3, 7, 7), 0);
        due("woods", x.woods(), 2);
        due("the first", x.wood(0, 0) * 10 + x.wood(0, 1), 81);
        due("the second", x.wood(1, 0) * 10 + x.wood(1, 1), 91);
        due("tap 1, the whole of it", x.tap(0, 3, 0, 500), 1);
        due("woods", x.woods(), 2);
        due("tap 2, low is within", x.tap(0, 3, 7, 500), 2);
        due("tap 3, high is within", x.tap(0, 3, 0, 7), 3);
        due("woods", x.woods(), 2);
        due("tap 4, not above 6", x.tap(0, 3, 0, 6), 4);
        due("woods", x.woods(), 0);
        due("tap 5, though no wood is left", x.tap(0, 3, 8, 500), 5);
        for (int i = 6; i < 12; i++) due("tap " + i, x.tap(0, 0, 0, 500), i);
        due("tap 12", x.tap(0, 0, 0, 500), FULL);
        due("BAD ahead of FULL", x.tap(0, 0, 0, 501), BAD);
        due("taps", x.count(1), 12);

        // of a PLATE as it was then
        x = new FiddlePlates();
        x.plate(9, 9, 9, 9);
        x.tap(0, 3, 315, 315);
        due("woods", x.woods(), 1);
        x.shave(0, 1);
        x.shave(0, 2);
        due("woods behind shavings", x.woods(), 1);
        due("stiffness", x.wood(0, 0), 9);
        due("weight", x.wood(0, 1), 1);
        x.tap(0, 3, 315, 315);
        due("woods behind a tap of the shaved one", x.woods(), 0);
    }

    private static void untap() {
        start(12);
        due("no taps", x.untap(0), BAD);
        x.plate(1, 1, 1, 1);
        x.tap(0, 3, 7, 7);
        x.tap(0, 3, 0, 6);
        x.tap(0, 0, 0, 0);
        due("woods", x.woods(), 0);
        due("tap 3", x.untap(3), BAD);
        due("tap -1", x.untap(-1), BAD);
        due("tap far", x.untap(GREATEST_INT), BAD);
        due("taps", x.count(1), 3);
        due("tap 1", x.untap(1), 1);
        due("taps", x.count(1), 2);
        due("woods", x.woods(), 2);
        due("a new one has the number behind", x.tap(0, 3, 8, 8), 2);
        due("woods", x.woods(), 0);
        due("tap 0", x.untap(0), 1);
        due("woods, none yet", x.woods(), 0);
        due("the one that was 2", x.untap(1), 1);
        due("woods, all", x.woods(), 81);
        due("the last", x.untap(0), 1);
        due("no more", x.untap(0), BAD);
        for (int i = 0; i < 12; i++) due("tap " + i, x.tap(0, 0, 0, 500), i);
        due("untap when full", x.untap(11), 1);
        due("tap again", x.tap(0, 3, 7, 7), 11);
        due("woods", x.woods(), 2);
    }

    private static void woods() {
        start(13);
        due("no taps", x.woods(), 81);
        x.plate(9, 9, 9, 9);
        due("with a plate", x.woods(), 81);
        x.tap(0, 3, 315, 500);
        due("one", x.woods(), 1);
        x.tap(0, 3, 0, 314);
        due("none", x.woods(), 0);
        x.untap(0);
        due("all but one", x.woods(), 80);
    }

    private static void wood() {
        start(14);
        for (int i = 0; i < 81; i++) {
            due("stiffness of " + i, x.wood(i, 0), i / 9 + 1);
            due("weight of " + i, x.wood(i, 1), i % 9 + 1);
        }
        due("wood 81", x.wood(81, 0), BAD);
        due("wood -1", x.wood(-1, 0), BAD);
        due("what 2", x.wood(0, 2), BAD);
        due("what -1", x.wood(0, -1), BAD);
        x.plate(1, 1, 1, 1);
        x.tap(0, 3, 7, 7);
        due("wood 1", x.wood(1, 0), 9);
        due("wood 2", x.wood(2, 0), BAD);
        tapOfNoWood(0);
        due("wood 0 of none", x.wood(0, 0), BAD);
    }

    private static void span() {
        start(15);
        due("no plates", x.span(0, 0, 0), BAD);
        x.plate(9, 9, 9, 9);
        int[] from = {0, 0, 2, 3};
        int[] to = {10, 72, 194, 315};
        for (int k = 0; k < 4; k++) {
            due("least of tone " + k, x.span(0, k, 0), from[k]);
            due("greatest of tone " + k, x.span(0, k, 1), to[k]);
        }
        due("plate 1", x.span(1, 0, 0), BAD);
        due("plate -1", x.span(-1, 0, 0), BAD);
        due("tone 4", x.span(0, 4, 0), BAD);
        due("tone -1", x.span(0, -1, 0), BAD);
        due("way 2", x.span(0, 0, 2), BAD);
        due("way -1", x.span(0, 0, -1), BAD);
        x.tap(0, 3, 100, 200);
        // (6, 2) has it a bit lower than (3, 1), as BONDS are cut
        due("least by tap", x.span(0, 3, 0), x.tone(0, 6, 2, 3));
        due("greatest by tap", x.span(0, 3, 1), x.tone(0, 5, 1, 3));
        tapOfNoWood(0);
        due("no wood", x.span(0, 0, 0), NOT);
        due("no wood", x.span(0, 0, 1), NOT);
        due("BAD ahead of NOT", x.span(0, 0, 2), BAD);
    }

    private static void next() {
        start(16);
        due("no plates", x.next(0, 0), BAD);
        x.plate(1, 1, 1, 1);
        due("tone", x.next(0, 0), 3);
        due("heap", x.next(0, 1), 46);
        due("plate 1", x.next(1, 0), BAD);
        due("plate -1", x.next(-1, 0), BAD);
        due("what 2", x.next(0, 2), BAD);
        due("what -1", x.next(0, -1), BAD);
        // (8, 1) and (9, 1) have the same BONDS here: all TONES leave them in one heap
        x.tap(0, 3, 7, 7);
        due("of several the least tone", x.next(0, 0), 0);
        due("its heap", x.next(0, 1), 2);
        x.plate(9, 9, 9, 9);
        due("another plate, the least tone that parts them", x.next(1, 0), 0);
        due("its heap", x.next(1, 1), 1);
        tapOfNoWood(0);
        due("no wood", x.next(0, 0), NOT);
        due("no wood", x.next(0, 1), NOT);
        due("BAD ahead of NOT", x.next(0, 2), BAD);
    }

    private static void aim() {
        start(17);
        due("tone 0", x.aim(0, 0, 500), 1);
        due("tone 3", x.aim(3, 500, 500), 1);
        due("tone 3 anew", x.aim(3, 0, 0), 1);
        due("spans", x.count(2), 2);
        due("tone -1", x.aim(-1, 0, 1), BAD);
        due("tone 4", x.aim(4, 0, 1), BAD);
        due("from -1", x.aim(1, -1, 1), BAD);
        due("to 501", x.aim(1, 0, 501), BAD);
        due("from and to 501", x.aim(1, 501, 501), BAD);
        due("from above to", x.aim(1, 2, 1), BAD);
        due("spans", x.count(2), 2);

        x = new FiddlePlates();
        x.plate(5, 5, 5, 5);
        x.aim(3, 0, 89);
        due("plan", x.plan(0), 1);
        due("a refused aim", x.aim(3, 0, 501), BAD);
        due("plan as before", x.plan(0), 1);
        x.aim(3, 0, 97);
        due("the later aim holds", x.plan(0), 0);
    }

    private static void aimless() {
        start(18);
        due("none", x.aimless(), 0);
        for (int k = 0; k < 4; k++) x.aim(k, 500, 500);
        x.plate(5, 5, 5, 5);
        due("no plan", x.plan(0), NONE);
        due("four", x.aimless(), 4);
        due("spans", x.count(2), 0);
        due("plan", x.plan(0), 0);
        due("none again", x.aimless(), 0);
        x.aim(2, 0, 500);
        x.aim(2, 0, 400);
        due("one", x.aimless(), 1);
    }

    private static void plan() {
        start(19);
        due("no plates", x.plan(0), BAD);
        x.plate(5, 5, 5, 5);
        due("no aims", x.plan(0), 0);
        // TONE 3 of 5555, 5554, 5545, 5454 comes to 97, 89, 72, 57 at most
        x.aim(3, 0, 97);
        due("met already", x.plan(0), 0);
        x.aim(3, 0, 96);
        due("one", x.plan(0), 1);
        x.aim(3, 0, 72);
        due("one still", x.plan(0), 1);
        x.aim(3, 0, 71);
        due("two", x.plan(0), 2);
        dueStrips("a plan alone", 0, 5, 5, 5, 5);
        due("shavings", x.count(3), 0);
        // from is for all WOODS too: TONE 3 of 5555 is 1 at least
        x.aim(3, 1, 97);
        due("from 1", x.plan(0), 0);
        x.aim(3, 2, 97);
        due("from 2", x.plan(0), NONE);
        x.aim(3, 1, 88);
        due("from 1 shuts out most", x.plan(0), 2);
        // several spans
        x.aim(3, 0, 89);
        x.aim(1, 0, 15);
        due("two spans", x.plan(0), 1);
        due("the strip for both", x.planned(0, 0), 2);
        x.aim(0, 3, 3);
        due("three spans", x.plan(0), NONE);
        due("plate 1", x.plan(1), BAD);
        due("plate -1", x.plan(-1), BAD);
        tapOfNoWood(0);
        due("no wood", x.plan(0), NOT);
        x.aimless();
        due("no wood, no aims", x.plan(0), NOT);
        due("BAD ahead of NOT", x.plan(1), BAD);
        x.untap(0);
        due("woods again", x.plan(0), 0);
    }

    private static void planOfSeveral() {
        start(19);
        x.plate(5, 5, 5, 5);
        x.aim(3, 0, 71);
        // LEAST as it is now
        x.least(5);
        due("all at LEAST", x.plan(0), NONE);
        x.least(9);
        due("all below LEAST", x.plan(0), NONE);
        x.aim(3, 0, 97);
        due("met, all below LEAST", x.plan(0), 0);
        x.aim(3, 0, 71);
        x.least(4);
        due("one off each at most", x.plan(0), 2);
        due("the first", x.planned(0, 0), 1);
        due("the second", x.planned(0, 1), 3);
        x.least(3);
        due("two off each at most", x.planned(0, 0), 2);
        // a STRIP below LEAST stays, the others can be shaved
        x.plate(5, 5, 2, 5);
        x.aimless();
        x.aim(1, 0, 4);
        x.least(1);
        due("one off the thinnest", x.plan(1), 1);
        due("the thinnest", x.planned(1, 0), 2);
        x.least(3);
        due("beside one below LEAST", x.plan(1), 2);
        due("beside it", x.planned(1, 0), 3);
        due("beside it again", x.planned(1, 1), 3);
        // by WOODS LEFT alone
        x.aimless();
        x.aim(3, 0, 20);
        due("for all woods", x.plan(0), NONE);
        x.tap(0, 3, 0, 20);
        due("behind a tap", x.plan(0), 0);
        x.untap(0);
        due("tap taken back", x.plan(0), NONE);
        // more than a LOG holds
        x.plate(9, 9, 9, 9);
        x.least(1);
        x.aim(3, 0, 4);
        due("22 shavings", x.plan(2), 22);
    }

    private static void planned() {
        start(20);
        due("no plates", x.planned(0, 0), BAD);
        x.plate(5, 5, 5, 5);
        due("an empty plan", x.planned(0, 0), NONE);
        // STRIPS 0 and 3 do equally, and so do 1 and 2: the ones behind are shaved
        x.aim(3, 0, 89);
        due("strip 3 for 0", x.planned(0, 0), 3);
        x.aim(3, 0, 72);
        due("strip 2 for 1", x.planned(0, 0), 2);
        due("it has not so many", x.planned(0, 1), NONE);
        due("far behind", x.planned(0, GREATEST_INT), NONE);
        x.aim(3, 0, 62);
        due("strip 1 first", x.planned(0, 0), 1);
        due("strip 3 then", x.planned(0, 1), 3);
        due("i -1", x.planned(0, -1), BAD);
        due("i far below", x.planned(0, LEAST_INT), BAD);
        due("plate 1", x.planned(1, 0), BAD);
        due("plate -1", x.planned(-1, 0), BAD);
        x.shave(0, 3);
        due("as all is now", x.planned(0, 0), 1);
        due("one is left", x.planned(0, 1), NONE);
        x.undo(0);
        due("undone", x.planned(0, 1), 3);
        x.shave(0, 1);
        x.mirror(0);
        due("mirrored", x.planned(0, 0), 1);
        due("one is left", x.planned(0, 1), NONE);

        String row = "0000001111111133333333";
        x.plate(9, 9, 9, 9);
        x.least(1);
        x.aim(3, 0, 4);
        for (int i = 0; i < row.length(); i++) due("shaving " + i, x.planned(1, i), row.charAt(i) - '0');
        due("shaving 22", x.planned(1, 22), NONE);
        x.aim(3, 400, 500);
        due("no plan", x.planned(1, 0), NONE);
        tapOfNoWood(0);
        due("no wood", x.planned(1, 0), NOT);
        due("BAD ahead of NOT", x.planned(1, -1), BAD);
    }

    /** THE PLAN is asked right ahead of each call that changes it, and right behind it. */
    private static void plannedAsAllIsNow() {
        start(20);
        x.least(1);
        x.plate(5, 5, 2, 5);
        x.aim(1, 0, 4);
        due("the thinnest", x.planned(0, 0), 2);
        x.mirror(0);
        due("mirrored", x.planned(0, 0), 1);
        x.least(3);
        due("behind least", x.planned(0, 0), 0);
        x.least(1);
        due("behind least again", x.planned(0, 0), 1);
        x.shave(0, 1);
        due("shaved", x.planned(0, 0), NONE);
        x.undo(0);
        due("undone", x.planned(0, 0), 1);
        x.aim(1, 0, 500);
        due("behind aim", x.planned(0, 0), NONE);
        x.aim(1, 0, 4);
        due("behind aim again", x.planned(0, 0), 1);
        x.tap(0, 1, 0, 4);
        due("tapped", x.planned(0, 0), NONE);
        x.untap(0);
        due("untapped", x.planned(0, 0), 1);
        x.plate(5, 5, 2, 5);
        due("of another plate", x.planned(1, 0), 2);
        due("of the first", x.planned(0, 0), 1);
        due("carve", x.carve(0), 1);
        due("carved", x.planned(0, 0), NONE);
        due("the other is not", x.planned(1, 0), 2);
        x.aimless();
        due("behind aimless", x.planned(1, 0), NONE);
    }

    private static void carve() {
        start(21);
        due("no plates", x.carve(0), BAD);
        x.plate(5, 5, 5, 5);
        due("an empty plan", x.carve(0), 0);
        x.aim(3, 0, 62);
        due("two", x.carve(0), 2);
        dueStrips("carved", 0, 5, 4, 5, 4);
        due("shavings", x.count(3), 2);
        due("nothing is left to do", x.carve(0), 0);
        due("the latest", x.undo(0), 3);
        due("the first", x.undo(0), 1);
        due("plate 1", x.carve(1), BAD);
        due("plate -1", x.carve(-1), BAD);
        x.aim(3, 400, 500);
        due("no plan", x.carve(0), NOT);
        x.aimless();
        tapOfNoWood(0);
        due("no wood", x.carve(0), NOT);
        due("BAD ahead of NOT", x.carve(1), BAD);

        // THE PLANS here have 21 and 20 SHAVINGS
        x = new FiddlePlates();
        x.least(1);
        x.plate(9, 9, 9, 9);
        x.plate(9, 9, 9, 8);
        x.aim(3, 0, 5);
        due("21 shavings", x.plan(0), 21);
        due("more than the LOG holds", x.carve(0), FULL);
        dueStrips("not carved", 0, 9, 9, 9, 9);
        due("shavings", x.count(3), 0);
        due("as many as the LOG holds", x.carve(1), 20);
        due("shavings", x.count(3), 20);
        due("an empty plan for a full LOG", x.carve(1), 0);
        due("the LOG is full", x.shave(1, 2), FULL);
        x.shave(0, 0);
        due("20 for a LOG of one", x.carve(0), FULL);
        x.aim(3, 400, 500);
        due("NOT ahead of FULL", x.carve(1), NOT);
    }

    private static void off() {
        start(22);
        due("off(0)", x.off(0), 5);
        due("off(200)", x.off(200), 0);
        due("off(201)", x.off(201), BAD);
        due("off(-1)", x.off(-1), BAD);
        due("off(far)", x.off(LEAST_INT), BAD);
        due("off(7)", x.off(7), 200);
        due("off(7) again", x.off(7), 7);
    }

    private static void even() {
        start(23);
        due("no plates", x.even(0, 0), BAD);
        // TONES 0 of both by (9, 1): 10 and 0
        x.plate(9, 9, 9, 9);
        x.plate(1, 1, 1, 1);
        due("a plate and itself", x.even(0, 0), 1);
        due("10 apart by 5", x.even(0, 1), 0);
        due("the other way", x.even(1, 0), 0);
        x.off(9);
        due("10 apart by 9", x.even(0, 1), 0);
        x.off(10);
        due("10 apart by 10", x.even(0, 1), 1);
        due("the other way", x.even(1, 0), 1);
        x.off(0);
        due("itself by 0", x.even(1, 1), 1);
        // by WOODS LEFT alone
        x.tap(0, 0, 0, 0);
        due("alike for the woods left", x.even(0, 1), 1);
        x.untap(0);
        due("not for all", x.even(0, 1), 0);
        due("plate 2", x.even(0, 2), BAD);
        due("plate 2 first", x.even(2, 0), BAD);
        due("plate -1", x.even(-1, 0), BAD);
        tapOfNoWood(0);
        due("no wood", x.even(0, 1), NOT);
        due("BAD ahead of NOT", x.even(0, 2), BAD);
    }

    private static void count() {
        start(24);
        dueCounts("new", 0, 0, 0, 0);
        x.plate(9, 9, 9, 9);
        x.plate(9, 9, 9, 9);
        x.tap(1, 0, 0, 500);
        x.aim(2, 0, 500);
        x.aim(0, 0, 500);
        x.aim(3, 0, 500);
        x.shave(0, 0);
        x.shave(1, 0);
        x.shave(1, 1);
        x.shave(1, 2);
        dueCounts("all", 2, 1, 3, 4);
        x.undo(1);
        dueCounts("one undone", 2, 1, 3, 3);
        x.mirror(1);
        dueCounts("mirrored", 2, 1, 3, 1);
        due("what 4", x.count(4), BAD);
        due("what -1", x.count(-1), BAD);
        due("what far", x.count(GREATEST_INT), BAD);
    }
}
