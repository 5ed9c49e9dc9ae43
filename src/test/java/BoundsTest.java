import java.util.ArrayList;
import java.util.Arrays;
import java.util.List;
import java.util.NoSuchElementException;

/**
 * Of every number that a call of the face takes: the least one and the greatest one that are taken, and the first
 * ones on both sides that are refused; each on an object of its own. After a refused call all that can be asked
 * answers as before it.
 */
public final class BoundsTest extends Asked {
    private static final long REFUSED_BY_THROW = Long.MIN_VALUE;
    private static final int DAY = 5;

    /** A call of the face with its numbers, a boolean being 1 or 0. */
    private interface Call {
        long on(NorthCurve x, int[] n);
    }

    /** A call whose numbers are taken, and the bounds of each of them. */
    private record Row(String name, long refused, Call call, int[] good, int[] least, int[] greatest) {
        String told(int[] n) {
            return name + Arrays.toString(n);
        }
    }

    private static final List<Row> ROWS = new ArrayList<>();

    public static void main(String[] args) {
        tellRows();
        asking();
        promise = "bounds";
        for (Row row : ROWS) bounds(row);
        promise = "a refused call changes nothing";
        long[] before = snapshot(null, null);
        for (Row row : ROWS) refusals(row, before);
        full();
        askingChangesNothing(before);
        tellAndEnd();
    }

    private static void row(String name, long refused, Call call, int[]... numbers) {
        int[] good = new int[numbers.length];
        int[] least = new int[numbers.length];
        int[] greatest = new int[numbers.length];
        for (int k = 0; k < numbers.length; k++) {
            good[k] = numbers[k][0];
            least[k] = numbers[k][1];
            greatest[k] = numbers[k][2];
        }
        ROWS.add(new Row(name, refused, call, good, least, greatest));
    }

    /** A number that is taken, the least and the greatest that are. */
    private static int[] n(int good, int least, int greatest) {
        return new int[] {good, least, greatest};
    }

    private static long bit(boolean b) {
        return b ? 1 : 0;
    }

    // ---- the object ----------------------------------------------------------------------------

    /**
     * Four HEARTHS of an EDITION that is TOLD in all YEARS, a fifth one without CUBES, two EDITIONS, two REPORTS,
     * DAY 5, 20 bytes on the TAPE; the fourth HEARTH is of the second EDITION alone.
     */
    private static NorthCurve rich() {
        NorthCurve x = new NorthCurve();
        x.zone(2, 10, -20);
        for (int h = 0; h < 3; h++) {
            x.hearth(h);
            for (int c = 0; c < 3; c++) x.cube(h, c, 100 * h + 7 * c, 600 - 11 * c, 50 + 10 * h + c);
            x.witness(h, h % 2 * 2, 300 * h + 100, 300 * h + 200);
        }
        x.twice(0, 0, 10, 10);
        x.twice(1, 0, 13, 6);
        text(x, "window 2000;base 30;drop if s<51 and hearth=2;");
        x.edition();
        x.day(3);
        x.tilt(1, -5, 5);
        x.twice(2, 0, 1, 2);
        x.hearth(5);
        x.cube(3, 3, 150, 590, 60);
        x.cost(3, 40);
        x.report(3, 0);
        x.report(0, 0);
        x.witness(3, 2, 450, 650);
        x.day(2);
        x.edition();
        x.cube(1, 0, 120, 580, 70);
        x.witness(1, 1, 350, 360);
        x.order(0, 1);
        x.order(1, 3);
        x.hearth(4);
        x.tilt(4, 1, 2);
        text(x, "base 0;#");
        feed(x, "window 1500;need 2;;");
        return x;
    }

    private static void tellRows() {
        row("zone", 0, (x, n) -> bit(x.zone(n[0], n[1], n[2])), n(3, 0, 5), n(1, -200, 200), n(1, -200, 200));
        row("hearth", NONE, (x, n) -> x.hearth(n[0]), n(3, 0, 5));
        row("tilt", 0, (x, n) -> bit(x.tilt(n[0], n[1], n[2])), n(2, 0, 4), n(1, -300, 300), n(1, -300, 300));
        row("cost", 0, (x, n) -> bit(x.cost(n[0], n[1])), n(2, 0, 4), n(7, 0, 999));
        row("twice", 0, (x, n) -> bit(x.twice(n[0], n[1], n[2], n[3])), n(1, 0, 3), n(4, 0, 9), n(5, -900, 900), n(5, -900, 900));
        row("bias", LOST, (x, n) -> x.bias(n[0], n[1], n[2]), n(1, 0, 3), n(0, 0, 1), n(4, 0, DAY));
        row("cube", NONE, (x, n) -> x.cube(n[0], n[1], n[2], n[3], n[4]), n(2, 0, 4), n(1, 0, 3), n(5, -900, 900), n(5, -900, 900), n(5, 0, 999));
        row("witness", 0, (x, n) -> bit(x.witness(n[0], n[1], n[2], n[3])), n(2, 0, 4), n(0, 0, 2), n(700, 0, 800), n(800, 700, 1500));
        row("witness of wood", 0, (x, n) -> bit(x.witness(1, 0, n[0], n[1])), n(1500, 0, 1500), n(1500, 1500, 1500));
        row("witness of a coin", 0, (x, n) -> bit(x.witness(1, 1, n[0], n[1])), n(700, 0, 800), n(800, 700, 1500));
        row("witness of a writ", 0, (x, n) -> bit(x.witness(1, 2, n[0], n[1])), n(0, 0, 0), n(0, 0, 1500));
        row("order, the earlier one", 0, (x, n) -> bit(x.order(n[0], 4)), n(2, 0, 3));
        row("order, the later one", 0, (x, n) -> bit(x.order(4, n[0])), n(2, 0, 3));
        row("end", NONE, (x, n) -> x.end(n[0]), n(7, 0, 20));
        row("day", NONE, (x, n) -> x.day(n[0]), n(7, 0, 1000));
    }

    private static void asking() {
        row("dropped", NONE, (x, n) -> x.dropped(n[0], n[1], n[2]), n(0, 0, 2), n(1, 0, 2), n(4, 0, DAY));
        row("dropped, told on DAY 3", NONE, (x, n) -> x.dropped(3, n[0], n[1]), n(0, 0, 0), n(4, 3, DAY));
        row("dropped, told on DAY 5", NONE, (x, n) -> x.dropped(1, n[0], n[1]), n(3, 0, 3), n(DAY, DAY, DAY));
        row("right", LOST, (x, n) -> x.right(n[0], n[1], n[2], n[3]), n(0, 0, 2), n(1, 0, 2), n(1, 0, 2), n(4, 0, DAY));
        row("right, told on DAY 3", LOST, (x, n) -> x.right(3, n[0], n[1], n[2]), n(0, 0, 0), n(1, 0, 2), n(4, 3, DAY));
        row("mean", LOST, (x, n) -> x.mean(n[0], n[1], n[2]), n(0, 0, 3), n(1, 0, 4), n(4, 0, DAY));
        row("mean, told on DAY 3", LOST, (x, n) -> x.mean(3, n[0], n[1]), n(1, 0, 4), n(4, 3, DAY));
        row("span", NONE, (x, n) -> x.span(n[0], n[1], n[2]), n(0, 0, 4), n(1, 0, 1), n(4, 0, DAY));
        row("dated", NONE, (x, n) -> x.dated(n[0], n[1]), n(0, 0, 4), n(4, 0, DAY));
        row("curve", LOST, (x, n) -> x.curve(n[0], n[1], n[2]), n(1, 0, 1), n(700, 0, 1500), n(1, 0, 3));
        row("without", LOST, (x, n) -> x.without(n[0], n[1], n[2], n[3]), n(1, 0, 1), n(1, 0, 3), n(700, 0, 1500), n(1, 0, 3));
        row("without, of EDITION 0", LOST, (x, n) -> x.without(0, n[0], n[1], n[2]), n(1, 0, 2), n(700, 0, 1500), n(1, 0, 3));
        row("uses", NONE, (x, n) -> x.uses(n[0], n[1]), n(1, 0, 1), n(1, 0, 4));
        row("changed", NONE, (x, n) -> x.changed(n[0], n[1]), n(1, 0, 1), n(1, 0, 1));
        row("date", NONE, (x, n) -> x.date(n[0], n[1], false), n(1, 0, 3), n(1, 0, 1));
        row("date ON THE SITE", NONE, (x, n) -> x.date(n[0], n[1], true), n(1, 0, 3), n(1, 0, 1));
        row("piece", REFUSED_BY_THROW, (x, n) -> piece(x, 3, n[0], false, n[1], n[2]), n(0, 0, 1), n(0, 0, 0), n(1, 0, 2));
        row("piece ON THE SITE", REFUSED_BY_THROW, (x, n) -> piece(x, 3, n[0], true, n[1], n[2]), n(0, 0, 1), n(0, 0, 0), n(1, 0, 2));
        row("quarrels", NONE, (x, n) -> x.quarrels(n[0]), n(1, 0, 1));
        row("test", NONE, (x, n) -> x.test(n[0], n[1]), n(1, 0, 1), n(1, 0, 1));
        row("choose", LOST, (x, n) -> x.choose(n[0], n[1], n[2]), n(1, 0, 1), n(50, 0, 9999), n(1, 0, 1));
        row("report", NONE, (x, n) -> x.report(n[0], n[1]), n(1, 0, 3), n(1, 0, 1));
        row("reportOf", NONE, (x, n) -> x.reportOf(n[0], 1), n(0, 0, 1));
        row("reportOf, with PIECES", NONE, (x, n) -> x.reportOf(0, n[0]), n(1, 0, 6));
        row("of", NONE, (x, n) -> x.of(n[0], n[1]), n(1, 0, 4), n(1, 0, 4));
        row("count", NONE, (x, n) -> x.count(n[0]), n(1, 0, 9));
    }

    // ---- bounds --------------------------------------------------------------------------------

    private static long answer(Row row, int[] n) {
        return row.call.on(rich(), n);
    }

    private static void bounds(Row row) {
        due(row.told(row.good) + " is taken", true, answer(row, row.good) != row.refused);
        due("the least ones are taken: " + row.told(row.least), true, answer(row, row.least) != row.refused);
        for (int k = 0; k < row.good.length; k++) {
            for (int taken : new int[] {row.least[k], row.greatest[k]}) {
                int[] n = with(row.good, k, taken);
                due(row.told(n) + " is taken", true, answer(row, n) != row.refused);
            }
            for (int refused : refusedOnes(row, k)) {
                int[] n = with(row.good, k, refused);
                due(row.told(n), row.refused, answer(row, n));
            }
        }
    }

    private static int[] with(int[] good, int place, int v) {
        int[] n = good.clone();
        n[place] = v;
        return n;
    }

    /** The first ones outside, and the ones farthest out. */
    private static int[] refusedOnes(Row row, int k) {
        return new int[] {row.least[k] - 1, row.greatest[k] + 1, Integer.MIN_VALUE, Integer.MAX_VALUE};
    }

    // ---- a refused call changes nothing --------------------------------------------------------

    private static void refusals(Row row, long[] before) {
        for (int k = 0; k < row.good.length; k++) {
            for (int refused : new int[] {row.least[k] - 1, row.greatest[k] + 1}) {
                int[] n = with(row.good, k, refused);
                same(row.told(n), before, snapshot(row, n));
            }
        }
    }

    private static void same(String call, long[] before, long[] after) {
        int first = Arrays.mismatch(before, after);
        due("behind " + call + " question " + first + " answers as before", first < 0 ? 0 : before[first], first < 0 ? 0 : after[first]);
    }

    /** All that can be asked of the object, behind a call; each slice of questions has its own object, of at most 512 calls. */
    private static long[] snapshot(Row row, int[] n) {
        return answers(() -> {
            NorthCurve x = rich();
            if (row != null) row.call.on(x, n);
            return x;
        });
    }

    private interface Maker {
        NorthCurve make();
    }

    private interface Question {
        long of(NorthCurve x);
    }

    private static long[] answers(Maker maker) {
        long[] answers = new long[QUESTIONS.size()];
        NorthCurve x = null;
        for (int q = 0; q < answers.length; q++) {
            if (q % 180 == 0 || q >= answers.length - DOING) x = maker.make();
            answers[q] = QUESTIONS.get(q).of(x);
        }
        return answers;
    }

    private static final List<Question> QUESTIONS = questions();
    /** How many of the last questions change the object, so that each needs its own. */
    private static final int DOING = 10;

    private static List<Question> questions() {
        List<Question> all = new ArrayList<>();
        for (int w = 0; w < 10; w++) ask(all, w, (x, n) -> x.count(n));
        all.add(NorthCurve::place);
        for (int h = 0; h < 6; h++) {
            for (int w = 0; w < 5; w++) ask(all, h * 5 + w, (x, n) -> x.of(n / 5, n % 5));
            for (int day = 0; day <= DAY; day++) ofHearth(all, h * 10 + day);
        }
        for (int k = 0; k < 8 * 6; k++) ask(all, k, (x, n) -> x.bias(n / 12, n / 6 % 2, n % 6));
        for (int e = 0; e < 3; e++) ofEdition(all, e);
        for (int r = 0; r < 3; r++) for (int w = 0; w < 7; w++) ask(all, r * 7 + w, (x, n) -> x.reportOf(n / 7, n % 7));
        // what only doing something tells
        all.add(x -> x.hearth(1));
        all.add(x -> x.cube(1, 0, 5, 5, 5));
        all.add(x -> x.edition());
        all.add(x -> x.report(3, 1));
        all.add(x -> x.feed(0, 0, 0, 0, 0));
        all.add(x -> x.rules() * 1000 + x.place());
        all.add(x -> x.end(19) * 1000 + x.rules());
        all.add(x -> bit(x.order(1, 0)) + 2 * bit(x.order(0, 1)) + 4 * bit(x.order(3, 0)));
        all.add(x -> x.zone(0, 1, 1) ? x.mean(0, 0, 5) : 0);
        all.add(x -> x.day(1) * 10 + x.dated(3, 6));
        return all;
    }

    private interface Asking {
        long of(NorthCurve x, int n);
    }

    private static void ask(List<Question> all, int n, Asking asking) {
        all.add(x -> asking.of(x, n));
    }

    private static void ofHearth(List<Question> all, int hearthAndDay) {
        int h = hearthAndDay / 10;
        int day = hearthAndDay % 10;
        for (int w = 0; w < 5; w++) ask(all, w, (x, n) -> x.mean(h, n, day));
        for (int c = 0; c < 5; c++) {
            ask(all, c, (x, n) -> x.dropped(h, n, day));
            for (int w = 0; w < 3; w++) ask(all, c * 3 + w, (x, n) -> x.right(h, n / 3, n % 3, day));
        }
        ask(all, 0, (x, n) -> x.span(h, n, day));
        ask(all, 1, (x, n) -> x.span(h, n, day));
        ask(all, day, (x, n) -> x.dated(h, n));
    }

    private static void ofEdition(List<Question> all, int e) {
        for (int year = 0; year <= 1500; year += 60) {
            for (int w = 0; w < 4; w++) {
                int what = w;
                ask(all, year, (x, n) -> x.curve(e, n, what));
                ask(all, year, (x, n) -> x.without(e, n % 4, n, what));
            }
        }
        for (int f = 0; f < 3; f++) ask(all, f, (x, n) -> x.changed(e, n));
        for (int h = 0; h < 6; h++) {
            ask(all, h, (x, n) -> x.uses(e, n));
            for (boolean site : new boolean[] {false, true}) {
                ask(all, h, (x, n) -> x.date(n, e, site));
                for (int k = 0; k < 6; k++) {
                    int what = k % 3;
                    int i = k / 3;
                    ask(all, h, (x, n) -> piece(x, n, e, site, i, what));
                }
            }
        }
        for (int w = 0; w < 2; w++) {
            ask(all, w, (x, n) -> x.test(e, n));
            ask(all, w, (x, n) -> x.choose(e, 39, n));
            ask(all, w, (x, n) -> x.choose(e, 40, n));
        }
        ask(all, e, (x, n) -> x.quarrels(n));
    }

    // ---- as many as there may be, and one more -------------------------------------------------

    private static void full() {
        fullOf("HEARTHS", 24 - 5, x -> x.hearth(3), NONE);
        fullOf("TILTS", 100 - 2, x -> bit(x.tilt(2, 7, 7)), 0);
        fullOf("DOUBLES", 200 - 3, x -> bit(x.twice(3, 4, 100, 100)), 0);
        fullOf("CUBES", 12 - 3, x -> x.cube(2, 1, 300, 300, 300), NONE);
        fullOf("WITNESSES", 150 - 5, x -> bit(x.witness(2, 2, 750, 760)), 0);
        fullOf("EDITIONS", 12 - 2, NorthCurve::edition, NONE);
        fullOf("REPORTS", 40 - 2, x -> x.report(3, 1), NONE);
        fullOf("bytes of the TAPE", 19, x -> x.feed(1, 2, 3, 4, 5), NONE);
        fullOf("DAYS", 100, x -> x.day(Math.min(1000, Math.max(1, 100000 - x.count(1)))), NONE);
        fullOfRules();
        fullOfOrders();
        throwing();
    }

    /** So many more are taken; then one is refused, and all answers as before it. */
    private static void fullOf(String what, int more, Question call, long refused) {
        Maker filled = () -> {
            NorthCurve x = rich();
            for (int k = 0; k < more; k++) call.of(x);
            return x;
        };
        promise = "as many " + what + " as there may be";
        NorthCurve y = rich();
        for (int k = 0; k < more; k++) due(k + 1 + " more", true, call.of(y) != refused);
        due("one more", refused, call.of(y));
        due("and again", refused, call.of(y));
        same("one of the " + what + " more", answers(filled), answers(() -> {
            NorthCurve x = filled.make();
            call.of(x);
            return x;
        }));
    }

    private static void fullOfRules() {
        promise = "as many RULES as there may be";
        // 19 more, fed on DAY 5; a text with a FAULT doesn't count
        Maker filled = () -> {
            NorthCurve x = rich();
            x.rules();
            for (int k = 1; k < 20; k++) text(x, "base " + k + ";window 2000;");
            x.end(0);
            feed(x, "base 77;");
            return x;
        };
        NorthCurve y = filled.make();
        due("count(6)", 20, y.count(6));
        due("the 21st", NONE, y.rules());
        due("the TAPE stays", 8, y.count(9));
        due("the last text counts", 19, y.mean(3, 3, 5));
        due("the 21st", NONE, y.rules());
        same("the 21st text", answers(filled), answers(() -> {
            NorthCurve x = filled.make();
            x.rules();
            return x;
        }));
    }

    private static void fullOfOrders() {
        promise = "as many ORDERS as there may be";
        Maker filled = () -> {
            NorthCurve x = rich();
            for (int h = 5; h < 24; h++) x.hearth(0);
            for (int k = 2; k < 60; k++) x.order(5 + k % 9, 14 + k / 9);
            return x;
        };
        NorthCurve y = filled.make();
        due("count(5)", 60, y.count(5));
        due("the 61st", false, y.order(4, 5));
        same("the 61st ORDER", answers(filled), answers(() -> {
            NorthCurve x = filled.make();
            x.order(4, 5);
            return x;
        }));
        long[] before = snapshot(null, null);
        int[][] refused = {{0, 1}, {1, 0}, {3, 1}, {3, 0}, {2, 2}};
        for (int[] pair : refused) {
            same("order" + Arrays.toString(pair), before, answers(() -> {
                NorthCurve x = rich();
                due("order" + Arrays.toString(pair), false, x.order(pair[0], pair[1]));
                return x;
            }));
        }
        // a text with a FAULT changes nothing but the TAPE, and what place() tells
        same("a FAULT", answers(() -> {
            NorthCurve x = rich();
            x.end(0);
            return x;
        }), answers(() -> {
            NorthCurve x = rich();
            text(x, "base 9;##");
            return x;
        }));
        // nothing is DATED
        NorthCurve bare = new NorthCurve();
        hearthAt(bare, 1, 2, 3);
        due("nothing is DATED", NONE, bare.edition());
        due("count(7)", 0, bare.count(7));
        bare.witness(0, 0, 9, 9);
        due("the first one", 0, bare.edition());
    }

    /** piece throws nothing but NoSuchElementException, and nothing else throws at all. */
    private static void throwing() {
        promise = "what is thrown";
        int[] odd = {Integer.MIN_VALUE, -1000000, -2, -1, 0, 1, 2, 3, 24, 400, 1500, Integer.MAX_VALUE - 1, Integer.MAX_VALUE};
        for (Row row : ROWS) {
            for (int k = 0; k < 40; k++) {
                int[] n = new int[row.good.length];
                for (int p = 0; p < n.length; p++) n[p] = odd[(k * 7 + p * (k + 3)) % odd.length];
                try {
                    row.call.on(rich(), n);
                    row.call.on(new NorthCurve(), n);
                    asked++;
                } catch (RuntimeException thrown) {
                    due(row.told(n) + " throws " + thrown, 0, 1);
                }
            }
        }
        Class<?> is = null;
        try {
            new NorthCurve().piece(0, 0, false, 0, 0);
        } catch (NoSuchElementException none) {
            is = none.getClass();
        }
        due("NoSuchElementException itself", true, is == NoSuchElementException.class);
    }

    /** Whoever asks all once more is told the same. */
    private static void askingChangesNothing(long[] before) {
        promise = "asking changes nothing";
        int many = QUESTIONS.size() - DOING;
        for (int first = 0; first < many; first += 180) {
            NorthCurve x = rich();
            for (int back = Math.min(first + 180, many) - 1; back >= first; back--) QUESTIONS.get(back).of(x);
            for (int q = first; q < many && q < first + 180; q++) due("question " + q + " again", before[q], QUESTIONS.get(q).of(x));
        }
    }
}
