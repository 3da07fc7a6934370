/** TONES, BELOW and BONDS of every PLATE and every WOOD, against the plain model. */
public final class TonesTest {
    private static int wrong = 0;

    public static void main(String[] args) {
        int[] t = new int[4];
        for (int shape = 0; shape < 6561; shape++) {
            t[0] = shape / 729 + 1;
            t[1] = shape / 81 % 9 + 1;
            t[2] = shape / 9 % 9 + 1;
            t[3] = shape % 9 + 1;
            FiddlePlates x = null;
            int used = 0;
            for (int wood = 0; wood < 81; wood++) {
                // an object serves 512 calls
                if (x == null || used > 490) {
                    x = new FiddlePlates();
                    x.plate(t[0], t[1], t[2], t[3]);
                    used = 1;
                }
                used += askWood(x, t, wood / 9 + 1, wood % 9 + 1);
            }
        }
        System.out.println(wrong == 0 ? "all tones are as due" : wrong + " tones are not as due");
        if (wrong != 0) System.exit(1);
    }

    private static int askWood(FiddlePlates x, int[] t, int s, int w) {
        int asked = 0;
        long[] polynomial = PlainPlates.determinant(t, s, w);
        for (int k = 0; k < 4; k++) {
            int want = PlainPlates.toneOf(t, s, w, k);
            due("tone", t, s, w, k, x.tone(0, s, w, k), want);
            // the numbers at which BELOW changes
            due("below", t, s, w, want, x.below(0, s, w, want), PlainPlates.valuesBelow(polynomial, want));
            due("below", t, s, w, want + 1, x.below(0, s, w, want + 1), PlainPlates.valuesBelow(polynomial, want + 1));
            asked += 3;
        }
        if (w == 1) {
            for (int i = 0; i <= 4; i++) due("bond", t, s, w, i, x.bond(0, s, i), PlainPlates.bondOf(t, s, i));
            asked += 5;
        }
        return asked;
    }

    private static void due(String call, int[] t, int s, int w, int last, int got, int want) {
        if (got != want && wrong++ < 20) {
            System.out.println(call + " of plate " + t[0] + t[1] + t[2] + t[3] + ", wood (" + s + ", " + w + "), "
                    + last + " answered " + got + ", due is " + want);
        }
    }
}
