import java.util.NoSuchElementException;

/** What the tests by hand have in common: how they ask, and the objects that they ask. */
abstract class Asked {
    static final int NONE = -1;
    static final int LOST = -2000000;
    static int wrong;
    static int asked;
    /** The promise or the sentence of the document that is tested at hand. */
    static String promise = "";

    static void tellAndEnd() {
        System.out.println(asked + " answers asked, " + wrong + " wrong");
        if (wrong != 0) System.exit(1);
    }

    static void due(String call, long want, long got) {
        asked++;
        if (got != want) {
            wrong++;
            System.out.println(promise + ": " + call + " answered " + got + ", due is " + want);
        }
    }

    static void due(String call, boolean want, boolean got) {
        due(call, want ? 1 : 0, got ? 1 : 0);
    }

    /** Feeds a text behind an emptied TAPE, and makes RULES of it. */
    static int text(NorthCurve x, String text) {
        x.end(0);
        feed(x, text);
        return x.rules();
    }

    static void feed(NorthCurve x, String text) {
        for (int at = 0; at < text.length(); at += 20) {
            int[] n = new int[5];
            for (int b = 0; b < 20; b++) n[b / 4] |= (at + b < text.length() ? text.charAt(at + b) : 255) << 24 - b % 4 * 8;
            x.feed(n[0], n[1], n[2], n[3], n[4]);
        }
        x.end(x.count(9) - (20 - text.length() % 20) % 20);
    }

    static void fault(String text, int answer, int place) {
        NorthCurve x = new NorthCurve();
        String told = text.replace("\n", "\\n");
        due("rules() of \"" + told + "\"", answer, text(x, text));
        due("place() of \"" + told + "\"", place, x.place());
        due("count(6)", answer < 0 ? 0 : 1, x.count(6));
        due("count(9)", 0, x.count(9));
    }

    static long piece(NorthCurve x, int hearth, int edition, boolean site, int i, int what) {
        try {
            return x.piece(hearth, edition, site, i, what);
        } catch (NoSuchElementException none) {
            return Long.MIN_VALUE;
        }
    }

    static void noPiece(NorthCurve x, int hearth, int edition, boolean site, int i, int what) {
        due("piece(" + hearth + ", " + edition + ", " + site + ", " + i + ", " + what + ") throws", Long.MIN_VALUE,
                piece(x, hearth, edition, site, i, what));
    }

    /** A hearth with one cube, so with its D, I, S as MEAN and CONE 10. */
    static int hearthAt(NorthCurve x, int d, int i, int s) {
        int h = x.hearth(0);
        x.cube(h, 0, d, i, s);
        return h;
    }

    static int datedAt(NorthCurve x, int d, int i, int s, int from, int to) {
        int h = hearthAt(x, d, i, s);
        x.witness(h, 0, from, to);
        return h;
    }

    /** Two dated ones, D 0 in the YEAR 100 and D 100 in the YEAR 200; I 600 both; S 100 and 200. */
    static NorthCurve slope() {
        NorthCurve x = new NorthCurve();
        datedAt(x, 0, 600, 100, 100, 100);
        datedAt(x, 100, 600, 200, 200, 200);
        return x;
    }

    /** Whether a COND holds, asked by a cube with D 3, I -4, S 5 of machine 1. */
    static void holds(String condition, boolean want) {
        NorthCurve x = new NorthCurve();
        x.hearth(2);
        x.cube(0, 1, 3, -4, 5);
        due("rules() of " + condition, 1, text(x, "drop if " + condition + ";"));
        due(condition, want, x.dropped(0, 0, 0) == 1);
    }

    /** One flat curve over all YEARS, and hearths that may be of any YEAR. */
    static NorthCurve flat(int hearths) {
        NorthCurve x = new NorthCurve();
        datedAt(x, 0, 0, 0, 700, 700);
        text(x, "window 9999;");
        x.edition();
        for (int h = 1; h <= hearths; h++) hearthAt(x, 0, 0, 0);
        return x;
    }
}
