import java.util.Arrays;

/**
 * The sentences of the document that name an edge (how far a DAY reaches, rounding down below 0, as many as there
 * may be and one more, the last YEAR that counts and the first that doesn't), worked out by hand. The numbers that
 * calls take are in BoundsTest, the TEXT in TextTest.
 */
public final class EdgesTest extends Asked {
    public static void main(String[] args) {
        doublesKnown();
        tiltKnown();
        cubesKnown();
        witnessesKnown();
        namesKnown();
        turnsAsNow();
        manyOfEach();
        lastHearth();
        biasDown();
        middleDown();
        tooFar();
        keepAsMany();
        machineOfEach();
        severalDrops();
        meanDown();
        coneDown();
        spans();
        quarrel();
        isDated();
        lastUseOrSkip();
        knots();
        windowOnBothSides();
        fourthOfLength();
        needAsMany();
        knotsDown();
        betweenKnotsDown();
        halfAtKnots();
        editionKeeps();
        changedInOne();
        dateReach();
        dateStrength();
        dateAtTheEnds();
        dateWithoutItself();
        weightsOfYears();
        pieces();
        coinsOnTheSite();
        ordersOnTheSite();
        lonesOnTheSite();
        siteAnew();
        rings();
        tests();
        chooseSpan();
        chooseMiddle();
        chooseWho();
        chooseGain();
        chooseSum();
        chooseThree();
        chooseAmongMany();
        chooseSmallWeights();
        chooseTogether();
        stale();
        tellAndEnd();
    }

    /** Hearths of an EDITION with a lone KNOT each: window 20, D and I 0, CONE 10; HALF is 10 there. */
    private static NorthCurve lone(int... years) {
        NorthCurve x = new NorthCurve();
        for (int year : years) datedAt(x, 0, 0, 0, year, year);
        text(x, "window 20;");
        x.edition();
        text(x, "");
        return x;
    }

    /** All YEARS are TOLD: D, I, S 0, HALF 0; so is the CONE of each hearth with one cube. */
    private static NorthCurve plain() {
        NorthCurve x = new NorthCurve();
        datedAt(x, 0, 0, 0, 0, 1500);
        text(x, "base 0;");
        x.edition();
        return x;
    }

    private static void pieceIs(NorthCurve x, int h, boolean site, int p, int first, int last) {
        String told = "PIECE " + p + " of " + h + (site ? " ON THE SITE" : "");
        due(told + ": first YEAR", first, piece(x, h, 0, site, p, 0));
        due(told + ": last YEAR", last, piece(x, h, 0, site, p, 1));
    }

    // ---- as known on a DAY ---------------------------------------------------------------------

    private static void doublesKnown() {
        promise = "of each MACHINE and PIECE that counts which was told last by then";
        NorthCurve x = new NorthCurve();
        x.hearth(0);
        x.cube(0, 1, 0, 0, 0);
        x.day(10);
        x.twice(0, 4, 100, 50);
        x.twice(1, 4, 107, 41);
        x.twice(1, 4, 105, 45);
        x.day(1);
        x.twice(0, 4, 101, 49);
        x.day(1);
        x.twice(1, 5, 7, 7);
        x.day(1);
        x.twice(0, 5, 0, 0);
        int[] d = {0, 5, 4, 4, 5};
        int[] i = {0, -5, -4, -4, 1};
        for (int day = 9; day <= 13; day++) {
            due("bias(1, 0, " + day + ")", d[day - 9], x.bias(1, 0, day));
            due("bias(1, 1, " + day + ")", i[day - 9], x.bias(1, 1, day));
            due("right(0, 0, 0, " + day + ")", -d[day - 9], x.right(0, 0, 0, day));
            due("right(0, 0, 1, " + day + ")", -i[day - 9], x.right(0, 0, 1, day));
            due("mean(0, 0, " + day + ")", -d[day - 9], x.mean(0, 0, day));
        }
        due("the DAY behind", LOST, x.bias(1, 0, 14));
        due("of another MACHINE", 0, x.bias(2, 0, 13));
        x.twice(0, 5, 100, 0);
        due("on the DAY at hand the last told counts", -45, x.bias(1, 0, 13));
    }

    private static void tiltKnown() {
        promise = "TILT that was told last by a DAY; 0 and 0 without";
        NorthCurve x = new NorthCurve();
        hearthAt(x, 5, 6, 7);
        hearthAt(x, 5, 6, 7);
        x.day(4);
        x.tilt(0, 10, 20);
        x.tilt(0, 30, -40);
        x.tilt(1, 1, 1);
        x.day(1);
        x.tilt(0, 50, 60);
        x.day(1);
        x.tilt(0, 0, 0);
        int[] d = {5, 35, 55, 5};
        int[] i = {6, -34, 66, 6};
        for (int day = 3; day <= 6; day++) {
            due("right D on DAY " + day, d[day - 3], x.right(0, 0, 0, day));
            due("right I on DAY " + day, i[day - 3], x.right(0, 0, 1, day));
            due("mean I on DAY " + day, i[day - 3], x.mean(0, 1, day));
        }
        due("of the other one", 6, x.right(1, 0, 0, 6));
        due("of the other one", 5, x.right(1, 0, 0, 3));
    }

    private static void cubesKnown() {
        promise = "CUBES told on the DAY at hand";
        NorthCurve x = new NorthCurve();
        x.hearth(0);
        x.day(2);
        x.cube(0, 0, 10, 0, 0);
        x.day(1);
        x.cube(0, 0, 30, 0, 0);
        x.cube(0, 0, 50, 0, 0);
        due("before", LOST, x.mean(0, 0, 1));
        due("before", LOST, x.mean(0, 4, 1));
        due("before", NONE, x.dropped(0, 0, 1));
        due("before", LOST, x.right(0, 0, 0, 1));
        due("that DAY", 10, x.mean(0, 0, 2));
        due("that DAY", 0, x.dropped(0, 0, 2));
        due("that DAY", 10, x.right(0, 0, 0, 2));
        due("the second before", NONE, x.dropped(0, 1, 2));
        due("the second before", LOST, x.right(0, 1, 2, 2));
        due("both", 30, x.mean(0, 0, 3));
        due("both", 3, x.mean(0, 4, 3));
        due("the third", 50, x.right(0, 2, 0, 3));
        due("a fourth", NONE, x.dropped(0, 3, 3));
        due("of() counts them as now", 3, x.of(0, 1));
        x.witness(0, 2, 5, 9);
        due("without a MEAN", 0, x.dated(0, 1));
        due("before its WITNESS", 0, x.dated(0, 2));
        due("with it", 1, x.dated(0, 3));
        text(x, "limit 0;keep 1;");
        // of 10, 30, 50 the middle is 30: 10 goes, then of 30, 50 the middle is 40: 30 goes
        due("on DAY 3", 50, x.mean(0, 0, 3));
        due("the RULES weren't told by DAY 2", 10, x.mean(0, 0, 2));
    }

    private static void witnessesKnown() {
        promise = "WITNESSES: of each sort that counts which was told last by a DAY";
        NorthCurve x = new NorthCurve();
        hearthAt(x, 0, 0, 0);
        x.day(7);
        x.witness(0, 0, 100, 900);
        x.witness(0, 0, 110, 800);
        x.day(1);
        x.witness(0, 1, 200, 201);
        x.witness(0, 1, 120, 121);
        x.day(1);
        x.witness(0, 2, 0, 700);
        x.day(1);
        x.witness(0, 0, 0, 1500);
        x.day(1);
        x.witness(0, 2, 0, 119);
        int[] from = {0, 110, 120, 120, 120, 120};
        int[] to = {1500, 800, 800, 700, 700, 119};
        int[] dated = {0, 1, 1, 1, 1, 2};
        for (int day = 6; day <= 11; day++) {
            due("span(0, 0, " + day + ")", from[day - 6], x.span(0, 0, day));
            due("span(0, 1, " + day + ")", to[day - 6], x.span(0, 1, day));
            due("dated(0, " + day + ")", dated[day - 6], x.dated(0, day));
        }
        text(x, "base 0;doubt 1 if wood=1;doubt 2 if coin=1;doubt 4 if writ=1;doubt 8 if length<0;doubt 16 if length=0-1;");
        due("CONE", 31, x.mean(0, 3, 11));
    }

    private static void namesKnown() {
        promise = "what the NAMES are is as known on a DAY";
        NorthCurve x = new NorthCurve();
        hearthAt(x, 0, 0, 0);
        text(x, "base 0;doubt 1 if wood=1;doubt 2 if coin=1;doubt 4 if writ=1;doubt 8 if cubes=2;doubt 16 if from>0;doubt 32 if to<1500;"
            + "doubt 64 if length<1500;skip if coin=1;use if cubes=2;");
        x.day(1);
        x.witness(0, 0, 0, 1500);
        x.day(1);
        x.witness(0, 1, 5, 5);
        x.day(1);
        x.witness(0, 2, 0, 1400);
        x.day(1);
        x.cube(0, 0, 0, 0, 0);
        int[] cone = {0, 1, 1 + 2 + 16 + 64, 1 + 2 + 4 + 16 + 32 + 64, 127};
        int[] dated = {0, 1, 0, 0, 1};
        for (int day = 0; day <= 4; day++) {
            due("CONE on DAY " + day, cone[day], x.mean(0, 3, day));
            due("dated on DAY " + day, dated[day], x.dated(0, day));
        }
        NorthCurve y = new NorthCurve();
        y.hearth(0);
        y.cube(0, 1, 5, -5, 0);
        text(y, "drop if d>5;drop if i<0-5;");
        y.day(1);
        y.tilt(0, 1, 0);
        y.day(1);
        y.twice(0, 3, 0, 0);
        y.twice(1, 3, 1, 0);
        y.day(1);
        y.tilt(0, 1, -1);
        y.day(1);
        y.twice(1, 3, 1, -1);
        int[] dropped = {0, 1, 0, 1, 0};
        for (int day = 0; day <= 4; day++) {
            due("dropped on DAY " + day, dropped[day], y.dropped(0, 0, day));
            due("LEFT on DAY " + day, dropped[day] == 1 ? LOST : 1, y.mean(0, 4, day));
        }
    }

    private static void turnsAsNow() {
        promise = "TURN: 0 at first; as they are now";
        NorthCurve x = new NorthCurve();
        hearthAt(x, 1, 2, 3);
        x.day(5);
        due("at first", 1, x.mean(0, 0, 0));
        x.zone(0, 100, -100);
        for (int day = 0; day <= 5; day++) {
            due("D on DAY " + day, 101, x.mean(0, 0, day));
            due("I on DAY " + day, -98, x.mean(0, 1, day));
            due("S on DAY " + day, 3, x.mean(0, 2, day));
        }
        text(x, "drop if d>50;drop if i<0;");
        due("not in a COND", 0, x.dropped(0, 0, 5));
        x.zone(1, 7, 7);
        due("of another ZONE", 101, x.mean(0, 0, 5));
        x.zone(0, 0, 0);
        due("back", 1, x.mean(0, 0, 0));
    }

    private static void manyOfEach() {
        promise = "at most, in all";
        NorthCurve x = new NorthCurve();
        for (int h = 0; h < 24; h++) due("HEARTH " + h, h, x.hearth(h % 6));
        due("HEARTH 24", NONE, x.hearth(0));
        for (int k = 0; k < 100; k++) due("TILT " + k, true, x.tilt(k % 24, k, -k));
        due("a 101st of a HEARTH that has four", false, x.tilt(23, 0, 0));
        due("a 101st on a later DAY", false, x.day(1) == 1 && x.tilt(0, 0, 0));
        for (int k = 0; k < 150; k++) due("WITNESS " + k, true, x.witness(k % 24, k % 3, k, 1500 - k));
        due("a 151st", false, x.witness(23, 0, 0, 0));
        due("count(3)", 100, x.count(3));
        due("count(4)", 150, x.count(4));
        due("the last TILT counts", 99, cubeThen(x, 3));
        due("the last WITNESS counts", 149, x.span(149 % 24, 0, 1));
        NorthCurve y = new NorthCurve();
        for (int k = 0; k < 200; k++) due("DOUBLE " + k, true, y.twice(k % 4, k % 10, k, -k));
        due("a 201st", false, y.twice(3, 9, 0, 0));
        due("count(2)", 200, y.count(2));
        // MACHINES 0 and 2 both have the PIECES 0, 2, 4, 6, 8: 180, 192, 184, 196, 188 and 190, 182, 194, 186, 198
        due("those told last count: 10 by 5", 2, y.bias(2, 0, 0));
        due("MACHINE 1 has none of these", 0, y.bias(1, 0, 0));
        y.hearth(0);
        y.hearth(0);
        for (int c = 0; c < 12; c++) due("CUBE " + c, c, y.cube(0, 0, c, c, c));
        due("CUBE 12", NONE, y.cube(0, 0, 0, 0, 0));
        due("of another HEARTH", 0, y.cube(1, 0, 0, 0, 0));
        due("of(0, 1)", 12, y.of(0, 1));
        due("the last one", 11, y.right(0, 11, 2, 0));
        due("no 13th", NONE, y.dropped(0, 12, 0));
        due("no 13th", LOST, y.right(0, 12, 0, 0));
    }

    private static void lastHearth() {
        promise = "the last HEARTH, the last CUBE";
        NorthCurve x = new NorthCurve();
        for (int h = 0; h < 23; h++) datedAt(x, 0, 0, 0, 500, 500);
        x.hearth(5);
        for (int c = 0; c < 12; c++) {
            x.day(1);
            x.cube(23, c % 4, 70, -70 - c % 2, 77);
        }
        for (int c = 0; c < 12; c++) {
            due("CUBE " + c + " on the DAY before", NONE, x.dropped(23, c, c));
            due("CUBE " + c + " on its DAY", 0, x.dropped(23, c, c + 1));
            due("CUBE " + c + " on the DAY before", LOST, x.right(23, c, 1, c));
            due("CUBE " + c + " on its DAY", -70 - c % 2, x.right(23, c, 1, c + 1));
            due("LEFT on its DAY", c + 1, x.mean(23, 4, c + 1));
        }
        x.witness(23, 2, 1000, 1000);
        text(x, "window 20;doubt 5 if hearth=23;");
        x.edition();
        int[] curve = {70, -71, 77, 15};
        for (int what = 0; what < 4; what++) {
            due("curve " + what, curve[what], x.curve(0, 1000, what));
            due("without the first", curve[what], x.without(0, 0, 1000, what));
            due("without the last", LOST, x.without(0, 23, 1000, what));
        }
        due("the last is of it", 1, x.uses(0, 23));
        due("its DATE without itself", 0, x.date(23, 0, false));
        due("tried", 23, x.test(0, 0));
        NorthCurve y = flat(23);
        y.order(22, 23);
        pieceIs(y, 22, true, 0, 0, 1499);
        pieceIs(y, 23, true, 0, 1, 1500);
        y.witness(23, 1, 700, 700);
        pieceIs(y, 22, true, 0, 0, 1499);
        pieceIs(y, 23, true, 0, 700, 1500);
        y.order(23, 21);
        pieceIs(y, 21, true, 0, 701, 1500);
        pieceIs(y, 23, true, 0, 700, 1499);
        pieceIs(y, 22, true, 0, 0, 1498);
    }

    private static int cubeThen(NorthCurve x, int h) {
        x.cube(h, 0, 0, 0, 0);
        return x.right(h, 0, 0, 1);
    }

    // ---- rounding down below 0; DROPPED, MEAN, CONE --------------------------------------------

    private static void biasDown() {
        promise = "BIAS rounded down; 0 without any";
        int[][] sums = {{1, 3, 0}, {-1, 3, -1}, {-3, 3, -1}, {-4, 3, -2}, {-2, 2, -1}, {-1, 2, -1}, {3, 2, 1}, {5, 3, 1}, {-1800, 1, -1800},
            {-899, 10, -90}, {899, 10, 89}, {-900, 10, -90}};
        for (int[] sum : sums) {
            NorthCurve x = new NorthCurve();
            for (int p = 0; p < sum[1]; p++) {
                x.twice(0, p, sum[0] < -900 ? 900 : 0, 0);
                x.twice(1, p, p > 0 ? 0 : Math.max(sum[0], -900), 0);
                x.twice(2, p, 0, p > 0 ? 0 : Math.max(sum[0], -900));
            }
            due("D: " + sum[0] + " by " + sum[1], sum[2], x.bias(1, 0, 0));
            due("I: " + sum[0] + " by " + sum[1], sum[0] < -900 ? -900 : sum[2], x.bias(2, 1, 0));
            due("MACHINE 0", 0, x.bias(0, 0, 0));
            due("MACHINE 3 without any", 0, x.bias(3, 0, 0));
        }
        NorthCurve y = new NorthCurve();
        y.twice(1, 0, 5, 5);
        y.twice(0, 9, 5, 5);
        due("no PIECE that both have", 0, y.bias(1, 0, 0));
        due("of MACHINE 0 with itself", 0, y.bias(0, 1, 0));
        y.twice(1, 9, 8, 1);
        due("one that both have", 3, y.bias(1, 0, 0));
        due("one that both have", -4, y.bias(1, 1, 0));
    }

    private static void middleDown() {
        promise = "the middle: the sum by how many, rounded down";
        NorthCurve x = new NorthCurve();
        x.hearth(0);
        x.cube(0, 0, -1, 0, 0);
        x.cube(0, 0, 0, 0, 0);
        text(x, "limit 0;keep 1;");
        // the middle is -1: 0 lies 1 from it
        due("D: the first", 0, x.dropped(0, 0, 0));
        due("D: the second", 2, x.dropped(0, 1, 0));
        NorthCurve y = new NorthCurve();
        y.hearth(0);
        y.cube(0, 0, 0, -7, 0);
        y.cube(0, 0, 0, -6, 0);
        text(y, "limit 0;keep 1;");
        due("I: the first", 0, y.dropped(0, 0, 0));
        due("I: the second", 2, y.dropped(0, 1, 0));
        NorthCurve z = new NorthCurve();
        z.hearth(0);
        z.cube(0, 0, 6, 7, 0);
        z.cube(0, 0, 7, 8, 0);
        text(z, "limit 1;keep 1;");
        // the middle is 6 and 7: the second lies 2 from it
        due("above 0: the first", 0, z.dropped(0, 0, 0));
        due("above 0: the second", 2, z.dropped(0, 1, 0));
        text(z, "limit 2;keep 1;");
        due("2 isn't further than 2", 0, z.dropped(0, 1, 0));
    }

    private static void tooFar() {
        promise = "furthest from their middle, of like ones the first, if it is further than limit";
        NorthCurve x = new NorthCurve();
        x.hearth(0);
        int[] d = {0, -30, 30, 0, 0};
        for (int v : d) x.cube(0, 0, v, 0, 0);
        text(x, "limit 30;keep 1;");
        due("30 isn't further than 30", 5, x.mean(0, 4, 0));
        text(x, "limit 29;keep 4;");
        due("of like ones the first", 2, x.dropped(0, 1, 0));
        due("of like ones the second", 0, x.dropped(0, 2, 0));
        text(x, "limit 23;keep 1;");
        // without the first the middle is 7: 30 lies 23 from it
        due("from the new middle", 0, x.dropped(0, 2, 0));
        text(x, "limit 22;keep 1;");
        due("from the new middle", 2, x.dropped(0, 2, 0));
        due("three like ones are left", 3, x.mean(0, 4, 0));
        text(x, "limit 0;keep 1;");
        due("none lies further than 0", 3, x.mean(0, 4, 0));
        text(x, "drop if d=30;limit 23;keep 1;");
        // by rule the last one went: the middle of the others is -8, -30 lies 22 from it
        due("a DROPPED one isn't of them", 1, x.dropped(0, 2, 0));
        due("22", 0, x.dropped(0, 1, 0));
        text(x, "drop if d=30;limit 21;keep 1;");
        due("22 is further than 21", 2, x.dropped(0, 1, 0));
        NorthCurve y = new NorthCurve();
        y.hearth(0);
        y.cube(0, 0, 10, 10, 0);
        y.cube(0, 0, -15, 0, 0);
        y.cube(0, 0, 0, -10, 0);
        y.cube(0, 0, 5, 0, 0);
        // the middle is 0 and 0: 20, 15, 10, 5
        text(y, "limit 19;");
        due("D and I, together", 2, y.dropped(0, 0, 0));
        text(y, "limit 20;");
        due("D and I, together", 0, y.dropped(0, 0, 0));
    }

    private static void keepAsMany() {
        promise = "as long as more than keep are LEFT";
        NorthCurve x = new NorthCurve();
        x.hearth(0);
        for (int c = 0; c < 12; c++) x.cube(0, 0, c * c, 0, 0);
        for (int keep = 1; keep <= 12; keep++) {
            text(x, "limit 0;keep " + keep + ";");
            due("keep " + keep, keep, x.mean(0, 4, 0));
        }
        text(x, "limit 0;");
        due("keep 3 where the text doesn't say it", 3, x.mean(0, 4, 0));
        text(x, "limit 0;keep 5;drop if cube>4;");
        due("as many as keep", 5, x.mean(0, 4, 0));
        text(x, "limit 0;keep 5;drop if cube>3;");
        due("fewer than keep", 4, x.mean(0, 4, 0));
        text(x, "limit 0;keep 5;drop if cube>5;");
        due("one more than keep", 5, x.mean(0, 4, 0));
        // of 0, 1, 4, 9, 16, 25 the middle is 9: 25 goes
        due("too far", 2, x.dropped(0, 5, 0));
        text(x, "limit 0;keep 1;drop if cube>=1;");
        due("a FAULT: the last text counts still", 5, x.mean(0, 4, 0));
        text(x, "limit 0;keep 1;drop if cube>0;");
        due("one", 1, x.mean(0, 4, 0));
        text(x, "drop if cube>0;drop if cube<1;");
        due("none", LOST, x.mean(0, 4, 0));
        due("by a rule", 1, x.dropped(0, 0, 0));
    }

    private static void machineOfEach() {
        promise = "machine, cube (its number), hearth";
        NorthCurve x = new NorthCurve();
        for (int h = 0; h < 24; h++) x.hearth(h % 6);
        for (int h = 0; h < 24; h += 23) for (int c = 0; c < 12; c++) x.cube(h, c % 4, 10 * h, 0, c);
        x.twice(0, 0, 0, 0);
        for (int m = 1; m < 4; m++) x.twice(m, 0, m, -m);
        for (int m = 0; m < 4; m++) {
            text(x, "drop if machine=" + m + ";");
            for (int c = 0; c < 12; c++) {
                due("CUBE " + c + " of the first HEARTH, MACHINE " + m, c % 4 == m ? 1 : 0, x.dropped(0, c, 0));
                due("CUBE " + c + " of the last HEARTH, MACHINE " + m, c % 4 == m ? 1 : 0, x.dropped(23, c, 0));
            }
        }
        for (int c = 0; c < 12; c++) {
            due("D of CUBE " + c, 230 - c % 4, x.right(23, c, 0, 0));
            due("I of CUBE " + c, c % 4, x.right(23, c, 1, 0));
            due("S of CUBE " + c, c, x.right(23, c, 2, 0));
        }
        text(x, "drop if hearth=23 and cube=11;drop if hearth=0 and zone=0 and cube<2;drop if hearth=23 and zone=0;");
        due("LEFT of the last HEARTH", 11, x.mean(23, 4, 0));
        due("the last CUBE", 1, x.dropped(23, 11, 0));
        due("LEFT of the first HEARTH", 10, x.mean(0, 4, 0));
    }

    private static void severalDrops() {
        promise = "A CUBE is DROPPED by a rule if some drop holds";
        NorthCurve x = new NorthCurve();
        x.hearth(0);
        for (int c = 0; c < 6; c++) x.cube(0, 0, 10 * c, 0, 0);
        text(x, "drop if cube<2;drop if cube<3;drop if d<10;");
        due("three are LEFT", 3, x.mean(0, 4, 0));
        due("their D", 40, x.mean(0, 0, 0));
        for (int c = 0; c < 6; c++) due("CUBE " + c, c < 3 ? 1 : 0, x.dropped(0, c, 0));
        text(x, "drop if cube=0;drop if 1=1;");
        due("none", LOST, x.mean(0, 0, 0));
        text(x, "drop if cube=0;drop if cube=0;limit 0;keep 4;");
        // of 10 to 50 the middle is 30: 10 and 50 lie as far
        due("four are LEFT", 4, x.mean(0, 4, 0));
        due("the first of like ones", 2, x.dropped(0, 1, 0));
        due("the other one", 0, x.dropped(0, 5, 0));
    }

    private static void meanDown() {
        promise = "MEAN: sums by how many, rounded down, and TURN more";
        NorthCurve x = new NorthCurve();
        x.hearth(1);
        x.cube(0, 0, -1, 1, 1);
        x.cube(0, 0, 0, 0, 0);
        x.cube(0, 0, 0, 0, 1);
        due("-1 by 3", -1, x.mean(0, 0, 0));
        due("1 by 3", 0, x.mean(0, 1, 0));
        due("2 by 3", 0, x.mean(0, 2, 0));
        x.zone(1, 1, -1);
        due("first down, then TURN", 0, x.mean(0, 0, 0));
        due("first down, then TURN", -1, x.mean(0, 1, 0));
        x.tilt(0, -1, -1);
        due("-4 by 3, and 1", -1, x.mean(0, 0, 0));
        due("-2 by 3, and -1", -2, x.mean(0, 1, 0));
        NorthCurve y = new NorthCurve();
        y.hearth(0);
        int[][] cubes = {{-900, -900}, {-899, -899}};
        for (int[] c : cubes) y.cube(0, 0, c[0], c[1], 999);
        due("-1799 by 2", -900, y.mean(0, 0, 0));
        due("-1799 by 2", -900, y.mean(0, 1, 0));
        due("S", 999, y.mean(0, 2, 0));
    }

    private static void coneDown() {
        promise = "CONE: the sum of how far all LEFT are from the middle, by how many, rounded down; base more";
        NorthCurve x = new NorthCurve();
        x.hearth(0);
        x.cube(0, 0, 0, 0, 0);
        due("of one", 10, x.mean(0, 3, 0));
        x.cube(0, 0, 1, 0, 0);
        due("1 by 2", 10, x.mean(0, 3, 0));
        x.cube(0, 0, -1, 3, 0);
        // the middle is 0 and 1: 1, 2, 3: 6 by 3
        due("6 by 3", 12, x.mean(0, 3, 0));
        x.cube(0, 0, 0, -7, 0);
        // the middle is 0 and -1: 1, 2, 5, 6: 14 by 4
        due("14 by 4", 13, x.mean(0, 3, 0));
        x.zone(0, 200, 200);
        due("TURN changes nothing", 13, x.mean(0, 3, 0));
        text(x, "base 0;");
        due("base 0", 3, x.mean(0, 3, 0));
        text(x, "base 9999;doubt 9999 if 1=1;doubt 1 if 1=2;");
        due("base and doubt", 3 + 9999 + 9999, x.mean(0, 3, 0));
        text(x, "base 0;drop if i<0;");
        due("of those LEFT", 2, x.mean(0, 3, 0));
    }

    // ---- WITNESSES, SPAN, DATED ----------------------------------------------------------------

    /** Of a hearth with these WITNESSES (null: none) from, to, and dated(). */
    private static void spanOf(int[] wood, int[] coin, int[] writ, int from, int to, int dated) {
        NorthCurve x = new NorthCurve();
        hearthAt(x, 0, 0, 0);
        int[][] all = {wood, coin, writ};
        for (int sort = 0; sort < 3; sort++) if (all[sort] != null) x.witness(0, sort, all[sort][0], all[sort][1]);
        due("from", from, x.span(0, 0, 0));
        due("to", to, x.span(0, 1, 0));
        due("dated", dated, x.dated(0, 0));
    }

    private static int[] years(int from, int to) {
        return new int[] {from, to};
    }

    private static void spans() {
        promise = "SPAN: from the greatest first YEAR of all that count to the least last one of wood and writ";
        spanOf(null, null, null, 0, 1500, 0);
        spanOf(years(0, 1500), null, null, 0, 1500, 1);
        spanOf(null, years(1500, 1500), null, 1500, 1500, 0);
        spanOf(null, years(5, 6), null, 5, 1500, 0);
        spanOf(null, null, years(5, 6), 5, 6, 1);
        spanOf(years(1, 100), years(2, 3), years(3, 200), 3, 100, 1);
        spanOf(years(3, 200), years(2, 3), years(1, 100), 3, 100, 1);
        spanOf(years(1, 100), years(3, 3), years(2, 200), 3, 100, 1);
        spanOf(years(1, 100), years(50, 60), null, 50, 100, 1);
        spanOf(null, years(50, 60), years(1, 100), 50, 100, 1);
        spanOf(years(0, 0), null, null, 0, 0, 1);
        spanOf(years(1500, 1500), null, null, 1500, 1500, 1);
    }

    private static void quarrel() {
        promise = "If from is above to they QUARREL";
        spanOf(years(10, 20), null, years(20, 30), 20, 20, 1);
        spanOf(years(10, 20), null, years(21, 30), 21, 20, 2);
        spanOf(years(21, 30), null, years(10, 20), 21, 20, 2);
        spanOf(years(10, 20), years(20, 1500), null, 20, 20, 1);
        spanOf(years(10, 20), years(21, 1500), null, 21, 20, 2);
        spanOf(null, years(21, 1500), years(10, 20), 21, 20, 2);
        spanOf(years(0, 0), null, years(1500, 1500), 1500, 0, 2);
        NorthCurve x = new NorthCurve();
        datedAt(x, 0, 0, 0, 10, 20);
        x.witness(0, 1, 21, 21);
        due("none is DATED", NONE, x.edition());
        x.witness(0, 1, 20, 21);
        due("one is DATED", 0, x.edition());
        text(x, "skip if 1=1;");
        due("skipped", 0, x.dated(0, 0));
        x.witness(0, 1, 21, 21);
        due("skipped, in a QUARREL", 2, x.dated(0, 0));
        text(x, "drop if 1=1;");
        due("without a MEAN, in a QUARREL", 2, x.dated(0, 0));
    }

    private static void isDated() {
        promise = "DATED is a HEARTH that has a MEAN, wood or writ, no QUARREL";
        NorthCurve x = new NorthCurve();
        x.hearth(0);
        due("nothing", 0, x.dated(0, 0));
        x.witness(0, 0, 5, 9);
        due("wood without a MEAN", 0, x.dated(0, 0));
        due("edition()", NONE, x.edition());
        x.cube(0, 0, 0, 0, 0);
        due("wood and a MEAN", 1, x.dated(0, 0));
        due("edition()", 0, x.edition());
        x.hearth(0);
        x.cube(1, 0, 0, 0, 0);
        x.witness(1, 1, 5, 9);
        due("coin and a MEAN", 0, x.dated(1, 0));
        due("edition()", 1, x.edition());
        due("not of it", 0, x.uses(1, 1));
        x.witness(1, 2, 5, 9);
        due("writ and a MEAN", 1, x.dated(1, 0));
        due("edition()", 2, x.edition());
        due("of it", 1, x.uses(2, 1));
        due("not of an older one", 0, x.uses(1, 1));
        text(x, "drop if hearth=1;");
        due("no MEAN is left", 0, x.dated(1, 0));
        due("the EDITION keeps it", 1, x.uses(2, 1));
    }

    private static void lastUseOrSkip() {
        promise = "which the last use or skip that holds for it doesn't skip";
        NorthCurve x = new NorthCurve();
        datedAt(x, 0, 0, 0, 100, 100);
        String[] texts = {"", "use if 1=1;", "use if 1=2;", "skip if 1=1;", "skip if 1=2;", "skip if 1=1;use if 1=1;", "use if 1=1;skip if 1=1;",
            "skip if 1=1;use if 1=2;", "use if 1=1;skip if 1=2;", "skip if 1=1;use if 1=1;skip if 1=2;", "use if 1=1;skip if 1=1;use if 1=2;",
            "skip if 1=1;drop if 1=2;doubt 1 if 1=1;base 3;", "skip if wood=1;", "skip if coin=1;", "skip if length=0 and cubes=1 and from=100;"};
        int[] due = {1, 1, 1, 0, 1, 1, 0, 0, 1, 1, 0, 0, 0, 1, 0};
        for (int k = 0; k < texts.length; k++) {
            text(x, texts[k]);
            due("dated by " + texts[k], due[k], x.dated(0, 0));
            // 12 EDITIONS are the most; here nine are made
            due("edition() by " + texts[k], due[k] == 1, x.edition() != NONE);
        }
        due("count(7)", 8, x.count(7));
    }

    // ---- KNOTS, WEIGHT, TOLD, HALF -------------------------------------------------------------

    private static void toldFrom(NorthCurve x, int edition, int first, int last) {
        for (int year = 0; year <= 1500; year += 25) {
            due("YEAR " + year + " of EDITION " + edition + " is TOLD", year >= first && year <= last, x.curve(edition, year, 0) != LOST);
        }
        due("the YEAR ahead", LOST, x.curve(edition, first - 1, 0));
        due("the YEAR behind", LOST, x.curve(edition, last + 1, 0));
        due("the last YEAR", true, x.curve(edition, last, 3) != LOST);
        if (first < last) due("the last YEAR but one", true, x.curve(edition, last - 1, 3) != LOST);
        if (first < last) due("the second YEAR", true, x.curve(edition, first + 1, 3) != LOST);
        else due("the YEAR behind", LOST, x.curve(edition, first + 1, 3));
    }

    private static void knots() {
        promise = "KNOTS are the YEARS 0, 25 and so on to 1500";
        NorthCurve x = new NorthCurve();
        datedAt(x, 3, 4, 5, 0, 0);
        text(x, "window 1;");
        x.edition();
        toldFrom(x, 0, 0, 0);
        x.witness(0, 0, 1500, 1500);
        x.edition();
        toldFrom(x, 1, 1500, 1500);
        x.witness(0, 0, 0, 1500);
        x.edition();
        toldFrom(x, 2, 0, 1500);
        x.witness(0, 0, 1, 24);
        x.edition();
        due("no KNOT in it", LOST, x.curve(3, 12, 0));
        due("changed(2, 3)", 61, x.changed(2, 3));
        x.witness(0, 0, 1, 25);
        x.edition();
        toldFrom(x, 4, 25, 25);
        x.witness(0, 0, 24, 51);
        x.edition();
        toldFrom(x, 5, 25, 50);
        for (int year = 25; year <= 50; year++) due("S in " + year, 5, x.curve(5, year, 2));
        x.witness(0, 0, 26, 1499);
        x.edition();
        toldFrom(x, 6, 50, 1475);
    }

    private static void windowOnBothSides() {
        promise = "window less g, if that is above 0";
        NorthCurve x = new NorthCurve();
        datedAt(x, 0, 0, 0, 510, 540);
        String[] windows = {"1", "10", "11", "15", "35", "36", "1500", "9999"};
        // from 500 it is 10 to the SPAN, from 550 also; from 475 and 575 35; 525 lies within
        int[][] told = {{525, 525}, {525, 525}, {500, 550}, {500, 550}, {500, 550}, {475, 575}, {0, 1500}, {0, 1500}};
        for (int k = 0; k < windows.length; k++) {
            text(x, "window " + windows[k] + ";");
            due("edition()", k, x.edition());
            toldFrom(x, k, told[k][0], told[k][1]);
        }
        text(x, "window 510;");
        x.edition();
        due("510 YEARS to 0", LOST, x.curve(8, 0, 0));
        due("485 YEARS to 25", 0, x.curve(8, 25, 0));
        text(x, "window 511;");
        x.edition();
        due("510 YEARS to 0", 0, x.curve(9, 0, 0));
        text(x, "window 960;");
        x.edition();
        due("960 YEARS to 1500", LOST, x.curve(10, 1500, 0));
        text(x, "window 961;");
        x.edition();
        due("960 YEARS to 1500", 0, x.curve(11, 1500, 0));
    }

    private static void fourthOfLength() {
        promise = "by 10 and CONE and a fourth of its length (rounded down) together, rounded down";
        // at 500 both have 100 times 1000; the first by 10 + 0 + 0, the second by 10 + 0 + a fourth
        int[] lengths = {0, 3, 4, 7, 8, 39, 40};
        int[] weights = {10000, 10000, 9090, 9090, 8333, 5263, 5000};
        for (int k = 0; k < lengths.length; k++) {
            NorthCurve x = new NorthCurve();
            datedAt(x, 0, 0, 0, 500, 500);
            datedAt(x, 900, -900, 900, 500, 500 + lengths[k]);
            text(x, "base 0;");
            x.edition();
            long share = 900L * weights[k] / (10000 + weights[k]);
            due("D by a length of " + lengths[k], share, x.curve(0, 500, 0));
            due("S by a length of " + lengths[k], share, x.curve(0, 500, 2));
            due("I by a length of " + lengths[k], Math.floorDiv(-900L * weights[k], 10000L + weights[k]), x.curve(0, 500, 1));
        }
        // 1000 by 10 and CONE: 989 and 990 and 991
        NorthCurve y = new NorthCurve();
        datedAt(y, 0, 0, 0, 500, 500);
        int e = 0;
        for (int base = 989; base <= 991; base++, e++) {
            text(y, "window 1;base " + base + ";");
            y.edition();
            due("a WEIGHT of 1000 by " + (10 + base), base <= 990 ? 0 : LOST, y.curve(e, 500, 0));
        }
        y.witness(0, 0, 500, 504);
        text(y, "window 1;base 989;");
        y.edition();
        due("1000 by 1000", 989, y.curve(3, 500, 3));
        y.witness(0, 0, 500, 508);
        y.edition();
        due("1000 by 1001", LOST, y.curve(4, 500, 3));
    }

    private static void needAsMany() {
        promise = "A KNOT is TOLD if at least need of them have a WEIGHT above 0";
        NorthCurve x = new NorthCurve();
        for (int h = 0; h < 24; h++) datedAt(x, h, 0, 0, 25 * h, 600);
        int[] needs = {1, 2, 3, 23, 24};
        for (int e = 0; e < needs.length; e++) {
            text(x, "window 1;need " + needs[e] + ";");
            x.edition();
            toldFrom(x, e, 25 * (needs[e] - 1), 600);
        }
        text(x, "window 1;need 24;skip if hearth=5;");
        due("23 are DATED", 5, x.edition());
        due("24 are needed", LOST, x.curve(5, 600, 0));
        text(x, "window 1;need 23;skip if hearth=5;");
        x.edition();
        toldFrom(x, 6, 575, 600);
        due("without one of them", LOST, x.without(6, 23, 600, 0));
        due("without one of 24", true, x.without(3, 23, 600, 0) != LOST);
        due("need 23 without 23 holds from 550 on", true, x.without(3, 23, 550, 0) != LOST);
        due("need 23 without 23", LOST, x.without(3, 23, 549, 0));
        due("need 24 without 0", LOST, x.without(4, 0, 600, 0));
        // a WEIGHT of 0 doesn't count
        NorthCurve y = new NorthCurve();
        datedAt(y, 0, 0, 0, 500, 500);
        datedAt(y, 0, 0, 0, 500, 508);
        text(y, "window 1;need 2;base 989;");
        y.edition();
        due("one of two has a WEIGHT of 0", LOST, y.curve(0, 500, 0));
        text(y, "window 1;need 2;base 988;");
        y.edition();
        due("both have 1", 988, y.curve(1, 500, 3));
    }

    private static void knotsDown() {
        promise = "D, I, S there: sums of WEIGHT times each, by all WEIGHTS, rounded down";
        NorthCurve x = new NorthCurve();
        datedAt(x, 0, -1, 1, 500, 500);
        datedAt(x, -1, 0, 0, 500, 500);
        datedAt(x, 0, 0, 0, 500, 500);
        text(x, "base 0;");
        x.edition();
        due("D: -1 by 3", -1, x.curve(0, 500, 0));
        due("I: -1 by 3", -1, x.curve(0, 500, 1));
        due("S: 1 by 3", 0, x.curve(0, 500, 2));
        // D, I of -1 lie 0 or 1 off: 1, 1, 1
        due("HALF", 1, x.curve(0, 500, 3));
        due("without 1: D 0", 0, x.without(0, 1, 500, 0));
        due("without 1: I -1 by 2", -1, x.without(0, 1, 500, 1));
        due("without 1: HALF 1 by 2", 0, x.without(0, 1, 500, 3));
        due("without 2: S 1 by 2", 0, x.without(0, 2, 500, 2));
        due("without 1 and its S", 0, x.without(0, 1, 500, 2));
        NorthCurve y = new NorthCurve();
        datedAt(y, -900, 900, 999, 500, 500);
        datedAt(y, -899, 899, 998, 500, 500);
        y.edition();
        due("-1799 by 2", -900, y.curve(0, 500, 0));
        due("1799 by 2", 899, y.curve(0, 500, 1));
        due("1997 by 2", 998, y.curve(0, 500, 2));
    }

    private static void betweenKnotsDown() {
        promise = "Between two KNOTS that are TOLD all four go straight, rounded down";
        NorthCurve x = new NorthCurve();
        datedAt(x, 0, 10, 100, 500, 500);
        datedAt(x, -10, 0, 0, 525, 525);
        text(x, "base 0;window 20;");
        x.edition();
        int[] years = {500, 501, 502, 503, 512, 513, 522, 523, 524, 525};
        int[] d = {0, -1, -1, -2, -5, -6, -9, -10, -10, -10};
        int[] s = {100, 96, 92, 88, 52, 48, 12, 8, 4, 0};
        for (int k = 0; k < years.length; k++) {
            due("D in " + years[k], d[k], x.curve(0, years[k], 0));
            due("I in " + years[k], 10 + d[k], x.curve(0, years[k], 1));
            due("S in " + years[k], s[k], x.curve(0, years[k], 2));
        }
        due("499", LOST, x.curve(0, 499, 0));
        due("526", LOST, x.curve(0, 526, 0));
        // HALF from 47 at 175 to 10 at 200
        NorthCurve y = slope();
        y.edition();
        due("HALF in 175", 47, y.curve(0, 175, 3));
        due("HALF in 176", 45, y.curve(0, 176, 3));
        due("HALF in 199", 11, y.curve(0, 199, 3));
        due("HALF in 200", 10, y.curve(0, 200, 3));
        due("S in 176", 176, y.curve(0, 176, 2));
        due("without 1: HALF in 110", 10, y.without(0, 1, 110, 3));
        // S from 7 at 500 to 0 at 525
        NorthCurve z = new NorthCurve();
        datedAt(z, 7, -7, 7, 500, 500);
        datedAt(z, 0, 0, 0, 525, 525);
        text(z, "base 0;window 20;");
        z.edition();
        int[] seven = {7, 6, 6, 6, 5};
        for (int k = 0; k < 5; k++) {
            due("S in " + (500 + k), seven[k], z.curve(0, 500 + k, 2));
            due("D in " + (500 + k), seven[k], z.curve(0, 500 + k, 0));
        }
        int[] below = {-7, -7, -7, -7, -6};
        for (int k = 0; k < 5; k++) due("I in " + (500 + k), below[k], z.curve(0, 500 + k, 1));
        due("I in 524", -1, z.curve(0, 524, 1));
        due("I in 525", 0, z.curve(0, 525, 1));
        due("S in 524", 0, z.curve(0, 524, 2));
    }

    private static void halfAtKnots() {
        promise = "HALF: CONE and the greater one of how far D and I are from those there, together";
        NorthCurve x = new NorthCurve();
        datedAt(x, 0, 0, 0, 500, 500);
        datedAt(x, 10, 40, 0, 500, 500);
        x.edition();
        // D 5, I 20: both lie 5 and 20 off
        due("I is the greater one", 30, x.curve(0, 500, 3));
        x.tilt(1, 70, -20);
        x.edition();
        // D 80, I 20: 40 and 10
        due("D is the greater one", 50, x.curve(1, 500, 3));
        x.tilt(1, -91, -20);
        x.edition();
        // D -81, so -41 by 2 down: 41 and 40 off; 10 + 41 and 10 + 40: 101 by 2
        due("below 0", -41, x.curve(2, 500, 0));
        due("rounded down", 50, x.curve(2, 500, 3));
        due("one alone", 10, x.without(2, 1, 500, 3));
        // by WEIGHT: 1000 * 100 by 10 and 100 by 20 and so on
        NorthCurve y = new NorthCurve();
        datedAt(y, 0, 0, 0, 500, 500);
        datedAt(y, 100, 0, 0, 500, 540);
        text(y, "base 0;");
        y.edition();
        // 10000 and 5000: D 33; (33 * 10000 + 67 * 5000) by 15000
        due("by WEIGHT: D", 33, y.curve(0, 500, 0));
        due("by WEIGHT: HALF", 44, y.curve(0, 500, 3));
    }

    private static void editionKeeps() {
        promise = "it keeps their MEANS, CONES, SPANS, and window, need, strength";
        NorthCurve x = slope();
        hearthAt(x, 50, 600, 150);
        text(x, "window 100;strength 20;");
        x.edition();
        long[] before = curveOf(x, 0);
        long first = piece(x, 2, 0, false, 0, 0);
        x.zone(0, 100, 100);
        x.tilt(0, 3, 3);
        x.cube(1, 0, 0, 0, 0);
        x.witness(0, 2, 100, 900);
        x.witness(1, 0, 0, 1500);
        x.twice(0, 0, 5, 5);
        x.day(10);
        text(x, "window 1;need 2;strength 0;base 700;skip if 1=1;drop if hearth<2;");
        long[] after = curveOf(x, 0);
        for (int k = 0; k < before.length; k++) due("answer " + k + " of the curve", before[k], after[k]);
        due("uses", 1, x.uses(0, 0));
        x.zone(0, 0, 0);
        text(x, "");
        due("DATE of 2", first, piece(x, 2, 0, false, 0, 0));
        due("strength 20", first, 130);
        text(x, "need 2;window 5;strength 0;");
        due("DATE of 2", first, piece(x, 2, 0, false, 0, 0));
    }

    private static long[] curveOf(NorthCurve x, int e) {
        long[] all = new long[80];
        for (int k = 0; k < 40; k++) {
            all[k] = x.curve(e, 30 * (k / 4) + 40, k % 4);
            all[40 + k] = x.without(e, k % 2, 30 * (k / 4) + 40, k % 4);
        }
        return all;
    }

    private static void changedInOne() {
        promise = "unlike in D, I, S, HALF, or whether they are TOLD";
        NorthCurve x = new NorthCurve();
        datedAt(x, 0, 0, 0, 500, 500);
        text(x, "window 26;");
        x.edition();
        x.tilt(0, 1, 0);
        x.edition();
        x.tilt(0, 0, 1);
        x.edition();
        x.tilt(0, 0, 0);
        x.edition();
        text(x, "window 26;base 11;");
        x.edition();
        text(x, "window 25;");
        x.edition();
        x.cube(0, 0, 0, 0, 2);
        text(x, "window 26;");
        x.edition();
        int[][] due = {{0, 0, 0}, {0, 1, 3}, {1, 0, 3}, {0, 2, 3}, {1, 2, 3}, {0, 3, 0}, {3, 4, 3}, {0, 5, 2}, {5, 0, 2}, {4, 5, 3}, {0, 6, 3}, {5, 6, 3}};
        for (int[] d : due) due("changed(" + d[0] + ", " + d[1] + ")", d[2], x.changed(d[0], d[1]));
    }

    // ---- DATE, PIECES --------------------------------------------------------------------------

    private static void dateReach() {
        promise = "D and I are both no further from its own than CONE and HALF together";
        // HALF 10, CONE 10
        int[][] at = {{20, 20, 1}, {-20, -20, 1}, {20, -20, 1}, {21, 0, 0}, {-21, 0, 0}, {0, 21, 0}, {0, -21, 0}, {21, 21, 0}, {0, 0, 1}, {20, 21, 0}, {21, 20, 0}};
        for (int[] a : at) {
            NorthCurve x = flat(0);
            int h = hearthAt(x, a[0], a[1], 0);
            due("D " + a[0] + ", I " + a[1], a[2], x.date(h, 0, false));
            if (a[2] == 1) pieceIs(x, h, false, 0, 0, 1500);
        }
        NorthCurve y = flat(0);
        int h = hearthAt(y, 25, 0, 0);
        due("25", 0, y.date(h, 0, false));
        text(y, "base 14;");
        due("CONE 14", 0, y.date(h, 0, false));
        text(y, "base 15;");
        due("CONE 15 and HALF 10", 1, y.date(h, 0, false));
        y.day(1);
        text(y, "base 14;");
        due("as known on the DAY at hand", 0, y.date(h, 0, false));
        // from one KNOT to the next D goes from 0 to 100, HALF 10, CONE 10: to the YEAR 505, D 20; I likewise
        for (int what = 0; what < 2; what++) {
            NorthCurve z = new NorthCurve();
            datedAt(z, 0, 0, 0, 500, 500);
            datedAt(z, what == 0 ? 100 : 0, what == 1 ? 100 : 0, 0, 525, 525);
            text(z, "window 20;");
            z.edition();
            hearthAt(z, 0, 0, 0);
            pieceIs(z, 2, false, 0, 500, 505);
            z.tilt(2, what == 0 ? 100 : 0, what == 1 ? 100 : 0);
            pieceIs(z, 2, false, 0, 520, 525);
            z.tilt(2, what == 0 ? 48 : 0, what == 1 ? 48 : 0);
            pieceIs(z, 2, false, 0, 507, 517);
            z.tilt(2, what == 0 ? -20 : 0, what == 1 ? -20 : 0);
            pieceIs(z, 2, false, 0, 500, 500);
            z.tilt(2, what == 0 ? -21 : 0, what == 1 ? -21 : 0);
            due("none", 0, z.date(2, 0, false));
        }
    }

    private static void dateStrength() {
        promise = "if the EDITION has a strength, S no further than that";
        // S goes from 0 at 500 to 100 at 525
        NorthCurve x = new NorthCurve();
        datedAt(x, 0, 0, 0, 500, 500);
        datedAt(x, 0, 0, 100, 525, 525);
        text(x, "window 20;strength 8;");
        x.edition();
        hearthAt(x, 0, 0, 50);
        // 42 to 58: 11 * 4 = 44, 14 * 4 = 56
        pieceIs(x, 2, false, 0, 511, 514);
        text(x, "window 20;strength 6;");
        x.edition();
        due("44 and 56", 511, piece(x, 2, 1, false, 0, 0));
        text(x, "window 20;strength 5;");
        x.edition();
        due("48 and 52", 512, piece(x, 2, 2, false, 0, 0));
        due("48 and 52", 513, piece(x, 2, 2, false, 0, 1));
        text(x, "window 20;strength 2;");
        x.edition();
        due("48 and 52", 512, piece(x, 2, 3, false, 0, 0));
        text(x, "window 20;strength 1;");
        x.edition();
        due("none", 0, x.date(2, 4, false));
        text(x, "window 20;strength 0;");
        x.edition();
        due("none", 0, x.date(2, 5, false));
        hearthAt(x, 0, 0, 52);
        due("52 alone", 513, piece(x, 3, 5, false, 0, 0));
        due("52 alone", 513, piece(x, 3, 5, false, 0, 1));
        text(x, "window 20;");
        x.edition();
        due("no strength", 500, piece(x, 3, 6, false, 0, 0));
        due("no strength", 525, piece(x, 3, 6, false, 0, 1));
        hearthAt(x, 0, 0, 999);
        due("no strength", 525, piece(x, 4, 6, false, 0, 1));
        due("a strength", 0, x.date(4, 0, false));
    }

    private static void dateAtTheEnds() {
        promise = "all YEARS that are TOLD";
        NorthCurve x = lone(0, 700, 1500);
        int h = hearthAt(x, 0, 0, 0);
        due("three lone KNOTS", 3, x.date(h, 0, false));
        int[] years = {0, 700, 1500};
        for (int p = 0; p < 3; p++) {
            pieceIs(x, h, false, p, years[p], years[p]);
            due("parts", 333, piece(x, h, 0, false, p, 2));
        }
        noPiece(x, h, 0, false, 3, 0);
        noPiece(x, h, 0, false, -1, 0);
        NorthCurve y = plain();
        hearthAt(y, 0, 0, 0);
        pieceIs(y, 1, false, 0, 0, 1500);
        due("parts", 1000, piece(y, 1, 0, false, 0, 2));
        due("D one off", 0, y.date(hearthAt(y, 1, 0, 0), 0, false));
        due("D one off", 0, y.date(hearthAt(y, -1, 0, 0), 0, false));
        due("I one off", 0, y.date(hearthAt(y, 0, 1, 0), 0, false));
        due("I one off", 0, y.date(hearthAt(y, 0, -1, 0), 0, false));
        NorthCurve z = lone(0, 25, 1475, 1500);
        h = hearthAt(z, 0, 0, 0);
        due("the first and the last KNOTS", 2, z.date(h, 0, false));
        pieceIs(z, h, false, 0, 0, 25);
        pieceIs(z, h, false, 1, 1475, 1500);
        due("parts", 500, piece(z, h, 0, false, 1, 2));
    }

    private static void dateWithoutItself() {
        promise = "if it was of the EDITION: by the same made without it";
        NorthCurve x = lone(500, 1000);
        pieceIs(x, 0, false, 0, 1000, 1000);
        pieceIs(x, 1, false, 0, 500, 500);
        due("one PIECE", 1, x.date(0, 0, false));
        x.witness(0, 0, 1200, 1200);
        pieceIs(x, 0, false, 0, 1000, 1000);
        hearthAt(x, 0, 0, 0);
        due("one that wasn't of it", 2, x.date(2, 0, false));
        x.witness(2, 0, 1200, 1200);
        due("nor was it when it was made", 2, x.date(2, 0, false));
        NorthCurve y = new NorthCurve();
        datedAt(y, 0, 0, 0, 500, 500);
        datedAt(y, 0, 0, 0, 500, 500);
        text(y, "need 2;window 20;");
        y.edition();
        hearthAt(y, 0, 0, 0);
        due("need 2 holds", 1, y.date(2, 0, false));
        due("need 2 doesn't hold without itself", 0, y.date(0, 0, false));
        due("tried", 0, y.test(0, 0));
        due("alone in an EDITION", 0, lone(500).date(0, 0, false));
    }

    private static void weightsOfYears() {
        promise = "WEIGHT of such a YEAR: 1 and twice CONE and twice HALF, less how far D and I are, together";
        // two lone KNOTS; D, I of the one are 0, of the other 4, 0; HALF and CONE 10: 41 less these
        NorthCurve x = new NorthCurve();
        datedAt(x, 0, 0, 0, 500, 500);
        datedAt(x, 4, 0, 0, 1000, 1000);
        text(x, "window 20;");
        x.edition();
        text(x, "");
        hearthAt(x, 0, 0, 0);
        // 41 and 37
        due("41 of 78", 525, piece(x, 2, 0, false, 0, 2));
        due("37 of 78", 474, piece(x, 2, 0, false, 1, 2));
        x.tilt(2, 4, 6);
        // 31 and 35
        due("31 of 66", 469, piece(x, 2, 0, false, 0, 2));
        due("35 of 66", 530, piece(x, 2, 0, false, 1, 2));
        x.tilt(2, -16, -20);
        // 41 - 36 = 5 and 41 - 20 - 20 = 1
        due("5 of 6", 833, piece(x, 2, 0, false, 0, 2));
        due("1 of 6", 166, piece(x, 2, 0, false, 1, 2));
        text(x, "base 12;");
        // 45 - 36 = 9 and 45 - 40 = 5
        due("9 of 14", 642, piece(x, 2, 0, false, 0, 2));
        due("5 of 14", 357, piece(x, 2, 0, false, 1, 2));
    }

    private static void pieces() {
        promise = "PIECES: YEARS one behind the other, as many as there are; parts rounded down";
        int[] years = new int[16];
        for (int k = 0; k < 16; k++) years[k] = 50 * k + 25;
        for (int many = 1; many <= 16; many++) {
            NorthCurve x = lone(Arrays.copyOf(years, many));
            int h = hearthAt(x, 0, 0, 0);
            due(many + " PIECES", many, x.date(h, 0, false));
            for (int p = 0; p < many; p++) {
                pieceIs(x, h, false, p, years[p], years[p]);
                due("parts", 1000 / many, piece(x, h, 0, false, p, 2));
            }
            noPiece(x, h, 0, false, many, 2);
            due("of its own EDITION", many - 1, x.date(0, 0, false));
            due("reportOf", many, x.reportOf(x.report(h, 0), 3));
            due("first", years[0], x.reportOf(0, 4));
            due("last", years[many - 1], x.reportOf(0, 5));
        }
    }

    // ---- ON THE SITE ---------------------------------------------------------------------------

    private static void coinsOnTheSite() {
        promise = "of one with a coin YEARS below its first one go";
        NorthCurve x = plain();
        int h = hearthAt(x, 0, 0, 0);
        int[] coins = {0, 1, 24, 25, 26, 1499, 1500};
        for (int coin : coins) {
            x.witness(h, 1, coin, 1500);
            pieceIs(x, h, true, 0, coin, 1500);
            pieceIs(x, h, false, 0, 0, 1500);
            due("quarrels", 0, x.quarrels(0));
        }
        x.witness(h, 1, 400, 500);
        x.witness(h, 0, 600, 700);
        x.witness(h, 2, 600, 700);
        pieceIs(x, h, true, 0, 400, 1500);
        x.day(1);
        x.witness(h, 1, 300, 300);
        pieceIs(x, h, true, 0, 300, 1500);
        NorthCurve y = lone(500, 1000);
        h = hearthAt(y, 0, 0, 0);
        y.witness(h, 1, 500, 500);
        due("500 stays", 2, y.date(h, 0, true));
        y.witness(h, 1, 501, 501);
        due("500 goes", 1, y.date(h, 0, true));
        due("all parts", 1000, piece(y, h, 0, true, 0, 2));
        y.witness(h, 1, 1000, 1000);
        pieceIs(y, h, true, 0, 1000, 1000);
        due("quarrels", 0, y.quarrels(0));
        y.witness(h, 1, 1001, 1001);
        due("all go", 0, y.date(h, 0, true));
        due("without ORDER they are there", 2, y.date(h, 0, false));
        noPiece(y, h, 0, true, 0, 0);
        due("quarrels", 1, y.quarrels(0));
        y.witness(0, 1, 1000, 1000);
        due("one of the EDITION has 1000 alone", 1, y.date(0, 0, true));
        y.witness(0, 1, 1001, 1001);
        due("quarrels", 2, y.quarrels(0));
    }

    private static void ordersOnTheSite() {
        promise = "of the later one YEARS go that are not above the least one of the earlier";
        NorthCurve x = plain();
        for (int k = 0; k < 4; k++) hearthAt(x, 0, 0, 0);
        x.order(1, 2);
        pieceIs(x, 1, true, 0, 0, 1499);
        pieceIs(x, 2, true, 0, 1, 1500);
        x.order(2, 3);
        x.order(3, 4);
        for (int h = 1; h <= 4; h++) {
            pieceIs(x, h, true, 0, h - 1, 1500 - (4 - h));
            pieceIs(x, h, false, 0, 0, 1500);
        }
        x.witness(1, 1, 1497, 1497);
        for (int h = 1; h <= 4; h++) pieceIs(x, h, true, 0, 1496 + h, 1496 + h);
        due("quarrels", 0, x.quarrels(0));
        x.witness(1, 1, 1498, 1498);
        due("quarrels", 1, x.quarrels(0));
        due("the last one", 0, x.date(4, 0, true));
        pieceIs(x, 3, true, 0, 1500, 1500);
        x.witness(1, 1, 0, 0);
        x.witness(3, 1, 800, 800);
        pieceIs(x, 2, true, 0, 1, 1498);
        pieceIs(x, 4, true, 0, 801, 1500);
    }

    private static void lonesOnTheSite() {
        promise = "ORDER by ORDER as told, again and again till nothing changes";
        NorthCurve x = lone(100, 200, 300);
        for (int k = 0; k < 4; k++) hearthAt(x, 0, 0, 0);
        x.order(3, 4);
        x.order(4, 5);
        int[] left = {100, 200, 300};
        for (int k = 0; k < 3; k++) {
            due("one YEAR is left", 1, x.date(3 + k, 0, true));
            pieceIs(x, 3 + k, true, 0, left[k], left[k]);
            due("all parts", 1000, piece(x, 3 + k, 0, true, 0, 2));
        }
        x.order(5, 6);
        due("none above 300", 0, x.date(6, 0, true));
        due("one that has none cuts nothing", 1, x.date(5, 0, true));
        pieceIs(x, 5, true, 0, 300, 300);
        due("quarrels", 1, x.quarrels(0));
        // the same ORDERS, the other way round: 5 cuts 6 first, then is emptied by 3 and 4
        NorthCurve y = lone(100, 200, 300);
        for (int k = 0; k < 4; k++) hearthAt(y, 0, 0, 0);
        y.order(5, 6);
        y.order(4, 5);
        y.order(3, 4);
        // 6: 200, 300; 5: 100, 200, then 200; 4: 100, then it is emptied; 6: 300
        due("4 is emptied", 0, y.date(4, 0, true));
        due("3 keeps all", 3, y.date(3, 0, true));
        pieceIs(y, 5, true, 0, 200, 200);
        pieceIs(y, 6, true, 0, 300, 300);
        due("quarrels", 1, y.quarrels(0));
        // the YEARS as they are then: the earlier is cut by the later as it has just become
        NorthCurve z = lone(100, 200);
        for (int k = 0; k < 2; k++) hearthAt(z, 0, 0, 0);
        z.witness(2, 1, 200, 200);
        z.order(2, 3);
        due("3 is emptied", 0, z.date(3, 0, true));
        due("2 isn't cut by it", 1, z.date(2, 0, true));
        due("quarrels", 1, z.quarrels(0));
        // of the EDITION's own too
        NorthCurve v = lone(100, 200, 300);
        v.order(0, 2);
        // 0 has 200 and 300, 2 has 100 and 200: none of these is above 200
        due("2 is emptied", 0, v.date(2, 0, true));
        due("0 keeps both", 2, v.date(0, 0, true));
        NorthCurve w = lone(100, 200, 300);
        w.order(2, 0);
        pieceIs(w, 2, true, 0, 100, 100);
        due("2 has 100 and 200", 2, w.date(2, 0, true));
        due("0 has 200 and 300", 2, w.date(0, 0, true));
        due("quarrels", 0, w.quarrels(0));
    }

    private static void siteAnew() {
        promise = "ON THE SITE each time as it is now";
        NorthCurve x = lone(100, 200, 300);
        for (int k = 0; k < 2; k++) hearthAt(x, 0, 0, 0);
        x.order(3, 4);
        due("200 and 300", 2, x.date(4, 0, true));
        text(x, "window 20;skip if hearth<2;");
        datedAt(x, 0, 0, 0, 500, 500);
        x.edition();
        text(x, "");
        // now 300 and 500 are TOLD
        due("500 alone", 1, x.date(4, 1, true));
        due("500 alone", 500, piece(x, 4, 1, true, 0, 0));
        due("300 alone", 300, piece(x, 3, 1, true, 0, 1));
        due("300 alone", 1, x.date(3, 1, true));
        due("by EDITION 0 as before", 2, x.date(4, 0, true));
        text(x, "drop if hearth=3;");
        due("the earlier one has no MEAN now", 3, x.date(4, 0, true));
        due("the earlier one has no MEAN now", NONE, x.date(3, 0, true));
        due("quarrels", 0, x.quarrels(0));
        text(x, "drop if hearth=4;");
        due("the later one has no MEAN now", 3, x.date(3, 0, true));
        x.witness(3, 1, 301, 301);
        due("all go", 1, x.quarrels(0));
        text(x, "drop if hearth=3;");
        due("those of one without a MEAN aren't there", 0, x.quarrels(0));
        text(x, "");
        x.tilt(3, 200, 0);
        due("none in its DATE", 0, x.quarrels(0));
        due("none in its DATE", 3, x.date(4, 0, true));
    }

    private static void rings() {
        promise = "one ahead of another one (at most 60; never in a ring)";
        NorthCurve x = new NorthCurve();
        for (int h = 0; h < 24; h++) x.hearth(0);
        for (int h = 0; h < 23; h++) due("order(" + h + ", " + (h + 1) + ")", true, x.order(h, h + 1));
        due("a ring of 24", false, x.order(23, 0));
        due("a ring of 2", false, x.order(1, 0));
        due("a ring of 12", false, x.order(20, 9));
        due("with itself", false, x.order(12, 12));
        due("told already", false, x.order(22, 23));
        due("a shorter way", true, x.order(0, 23));
        due("told already", false, x.order(0, 23));
        due("of(0, 4)", 2, x.of(0, 4));
        due("of(23, 3)", 2, x.of(23, 3));
        due("of(12, 3)", 1, x.of(12, 3));
        due("of(0, 3)", 0, x.of(0, 3));
        for (int k = 0; k < 36; k++) due("order " + (24 + k), true, x.order(k / 12, 5 + k % 12));
        due("count(5)", 60, x.count(5));
        due("the 61st", false, x.order(0, 22));
        due("of(0, 4)", 14, x.of(0, 4));
        // told the other way round
        NorthCurve y = new NorthCurve();
        for (int h = 0; h < 24; h++) y.hearth(0);
        for (int h = 23; h > 0; h--) due("order(" + (h - 1) + ", " + h + ")", true, y.order(h - 1, h));
        due("a ring of 24", false, y.order(23, 0));
        due("count(5)", 23, y.count(5));
    }

    // ---- TEST, TO CHOOSE, REPORT ---------------------------------------------------------------

    private static void tests() {
        promise = "A TEST: right for one if some YEAR of it is in its SPAN as the EDITION has it";
        // each has the other's YEARS: 0 has 1000, 1 has those of 0
        int[][] spans = {{500, 1000}, {500, 999}, {500, 500}, {490, 1500}, {510, 1000}};
        for (int[] s : spans) {
            NorthCurve x = new NorthCurve();
            datedAt(x, 0, 0, 0, s[0], s[1]);
            datedAt(x, 0, 0, 0, 1000, 1000);
            text(x, "window 1;");
            x.edition();
            due("tried: " + s[0] + " to " + s[1], 2, x.test(0, 0));
            due("right for 0 and 1: " + s[0] + " to " + s[1], s[1] >= 1000 ? 2 : 0, x.test(0, 1));
        }
        NorthCurve x = new NorthCurve();
        datedAt(x, 0, 0, 0, 500, 500);
        datedAt(x, 0, 0, 0, 501, 700);
        text(x, "window 1;");
        x.edition();
        // 0 has 525 to 700 by the other one, 1 has 500 alone
        due("tried", 2, x.test(0, 0));
        due("500 isn't in 501 to 700", 0, x.test(0, 1));
        x.witness(1, 0, 500, 700);
        due("as the EDITION has it", 0, x.test(0, 1));
        x.edition();
        due("500 is in 500 to 700, and the other way round", 2, x.test(1, 1));
        x.day(1);
        text(x, "window 1;drop if hearth=1;");
        due("without a MEAN it isn't tried", 1, x.test(1, 0));
        due("0 is", 1, x.test(1, 1));
        text(x, "window 1;");
        x.tilt(1, 200, 0);
        due("without YEARS it isn't tried", 1, x.test(1, 0));
        x.tilt(1, 0, 0);
        // ORDER and coins don't matter
        x.order(0, 1);
        x.witness(0, 1, 1500, 1500);
        due("without ORDER", 2, x.test(1, 0));
        due("without ORDER", 2, x.test(1, 1));
        due("of one alone", 0, lone(500).test(0, 0));
        due("of one alone", 0, lone(500).test(0, 1));
        // one that wasn't of it isn't tried
        NorthCurve y = lone(500, 525);
        hearthAt(y, 0, 0, 0);
        y.witness(2, 0, 500, 500);
        due("the two of it", 2, y.test(0, 0));
        due("none is right", 0, y.test(0, 1));
    }

    /** GAIN and the bits of the best set by EDITION 0. */
    private static void chosen(NorthCurve x, int sum, int gain, int bits) {
        due("GAIN by " + sum, gain, x.choose(0, sum, 0));
        due("bits by " + sum, bits, x.choose(0, sum, 1));
    }

    private static NorthCurve chance(int year, int window, int base) {
        NorthCurve x = new NorthCurve();
        datedAt(x, 0, 0, 0, year, year);
        text(x, "window " + window + ";");
        x.edition();
        hearthAt(x, 0, 0, 0);
        x.cost(1, 50);
        text(x, "base " + base + ";");
        return x;
    }

    private static void chooseSpan() {
        promise = "a SPAN from 20 YEARS ahead of the middle to 20 behind, within 0 and 1500";
        // the PIECE is the lone KNOT: 475 and 525 lie 5 from the SPAN 480 to 520
        chosen(chance(500, 5, 10), 50, 0, 0);
        chosen(chance(500, 6, 10), 50, 200, 2);
        // 25 from 0: 5 again; at 0 WEIGHTS 300 and 19 by (10 + 300 + 5): HALF 27
        chosen(chance(0, 5, 10), 50, 0, 0);
        chosen(chance(0, 6, 10), 50, 100, 2);
        chosen(chance(0, 6, 300), 50, 83, 2);
        // 1500 likewise: had it a SPAN to 1520, HALF would be 26
        chosen(chance(1500, 5, 10), 50, 0, 0);
        chosen(chance(1500, 6, 10), 50, 100, 2);
        chosen(chance(1500, 6, 300), 50, 83, 2);
        // 25: 5 to 45
        chosen(chance(25, 6, 10), 50, 200, 2);
        chosen(chance(1475, 6, 10), 50, 200, 2);
        // reach 12: PIECE 0 to 23, so 0 to 31, a fourth of 31 is 7: WEIGHTS 1052 at 0 and 25, 52 at 50, which is TOLD then
        // HALF 12104 by 2052 is 5 at 0; at 25 D 6, 26416 by 2052 is 12: 100 and 5 less 2
        chosen(chance(0, 25, 14, 2), 1, 103, 4);
        // reach 22: PIECE 0 to 22, so 0 to 31 again: WEIGHTS 689; HALF 10 at 0; at 25 D 14, 38914 by 1689 is 23
        chosen(chance(0, 25, 25, 12), 1, 87, 4);
        // the other way round: PIECE 1478 to 1500, so 1469 to 1500
        chosen(chance(1500, 1475, 25, 12), 1, 87, 4);
    }

    /** Own ones with D 0 and another D in two YEARS, window 20; a third HEARTH with D 0 and this base as CONE. */
    private static NorthCurve chance(int year, int otherYear, int otherD, int base) {
        NorthCurve x = new NorthCurve();
        datedAt(x, 0, 0, 0, year, year);
        datedAt(x, otherD, 0, 0, otherYear, otherYear);
        text(x, "window 20;");
        x.edition();
        text(x, "base " + base + ";");
        x.cost(hearthAt(x, 0, 0, 0), 1);
        return x;
    }

    private static void chooseMiddle() {
        promise = "the middle of its PIECE of the most WEIGHT (the first of these; the middle rounded down)";
        // PIECE 1475 to 1500: the middle 1487, from 1467 on: 1450 lies 17 from it
        for (int window = 17; window <= 18; window++) {
            NorthCurve x = new NorthCurve();
            datedAt(x, 0, 0, 0, 1475, 1500);
            text(x, "window " + window + ";");
            x.edition();
            hearthAt(x, 0, 0, 0);
            x.cost(1, 1);
            chosen(x, 1, window == 18 ? 100 : 0, window == 18 ? 2 : 0);
        }
        // PIECE 0 to 25: the middle 12, to 32: 50 lies 18 from it
        for (int window = 18; window <= 19; window++) {
            NorthCurve x = new NorthCurve();
            datedAt(x, 0, 0, 0, 0, 25);
            text(x, "window " + window + ";");
            x.edition();
            hearthAt(x, 0, 0, 0);
            x.cost(1, 1);
            chosen(x, 1, window == 19 ? 100 : 0, window == 19 ? 2 : 0);
        }
        // a lone KNOT at 0 and a PIECE from 1475 to 1500: the longer one has more WEIGHT
        NorthCurve x = new NorthCurve();
        datedAt(x, 0, 0, 0, 0, 0);
        datedAt(x, 0, 0, 0, 1475, 1500);
        text(x, "window 18;need 2;");
        x.edition();
        datedAt(x, 0, 0, 0, 0, 0);
        x.witness(2, 0, 1475, 1500);
        due("none is TOLD with need 2", LOST, x.curve(0, 0, 0));
        text(x, "window 18;");
        x.edition();
        hearthAt(x, 0, 0, 0);
        x.cost(3, 1);
        due("1450 alone is TOLD then", 100, x.choose(1, 1, 0));
        // two lone KNOTS alike: the first, at 0, where 25 lies 5 from the SPAN
        NorthCurve y = lone(0, 1000);
        hearthAt(y, 0, 0, 0);
        y.cost(2, 1);
        due("25 alone: the first of like ones", 100, y.choose(0, 1, 0));
        NorthCurve z = lone(500, 1500);
        hearthAt(z, 0, 0, 0);
        z.cost(2, 1);
        due("475 and 525: the first of like ones", 200, z.choose(0, 1, 0));
        // three lone KNOTS, the middle one the heaviest
        NorthCurve v = new NorthCurve();
        for (int k = 0; k < 3; k++) datedAt(v, k == 1 ? 0 : 3, 0, 0, 750 * k, 750 * k);
        text(v, "window 20;");
        v.edition();
        text(v, "");
        hearthAt(v, 0, 0, 0);
        v.cost(3, 1);
        due("725 and 775", 200, v.choose(0, 1, 0));
    }

    private static void chooseWho() {
        promise = "HEARTHS that aren't of an EDITION, have a COST and YEARS in their DATE: the first 10 by numbers";
        NorthCurve x = lone(500);
        for (int h = 1; h <= 10; h++) x.cost(hearthAt(x, 900, 0, 0), 1);
        x.hearth(0);
        x.cost(11, 1);
        x.cost(hearthAt(x, 0, 0, 0), 1);
        x.cost(0, 1);
        chosen(x, 1, 200, 1 << 12);
        NorthCurve y = lone(500);
        for (int h = 1; h <= 12; h++) x = costly(y, h);
        // only the 11th is cheap enough
        for (int h = 1; h <= 10; h++) y.cost(h, 999);
        chosen(y, 998, 0, 0);
        chosen(y, 999, 200, 2);
        y.cost(4, 0);
        chosen(y, 998, 200, 1 << 11);
        y.cost(4, 1);
        chosen(y, 998, 200, 1 << 4);
        // HEARTH 0 may be one too
        NorthCurve v = new NorthCurve();
        x = costly(v, 0);
        for (int h = 1; h < 4; h++) datedAt(v, 0, 0, 0, 500, 500);
        text(v, "window 20;");
        v.edition();
        text(v, "");
        chosen(v, 1, 200, 1);
        x = costly(v, 4);
        chosen(v, 2, 200, 1);
        v.cost(0, 2);
        chosen(v, 1, 200, 1 << 4);
        // ORDER and coins don't matter
        NorthCurve z = lone(500);
        x = costly(z, 1);
        z.witness(1, 1, 1500, 1500);
        chosen(z, 1, 200, 2);
        z.cost(1, 0);
        chosen(z, 9999, 0, 0);
        z.cost(1, 999);
        chosen(z, 998, 0, 0);
        chosen(z, 999, 200, 2);
        z.witness(1, 0, 1, 2);
        z.witness(1, 1, 0, 0);
        z.edition();
        due("of the second EDITION it is", 0, z.choose(1, 9999, 1));
        chosen(z, 9999, 200, 2);
    }

    private static NorthCurve costly(NorthCurve x, int h) {
        x.cost(hearthAt(x, 0, 0, 0), 1);
        due("hearth " + h, h + 1, x.count(0));
        return x;
    }

    private static void chooseGain() {
        promise = "GAIN: 100 for each that is TOLD then and wasn't; of one that was, how much less HALF is";
        // D -4: at 500 WEIGHTS 1000 and 666, D -2: (12 * 1000 + 12 * 666) by 1666 is 12, was 10; I likewise
        for (int what = 0; what < 2; what++) {
            NorthCurve x = lone(500);
            x.cost(hearthAt(x, what == 0 ? -4 : 0, what == 1 ? -4 : 0, 0), 1);
            chosen(x, 1, 198, 2);
            // 4: D 1: (11 * 1000 + 13 * 666) by 1666 is 11
            NorthCurve y = lone(500);
            y.cost(hearthAt(y, what == 0 ? 4 : 0, what == 1 ? 4 : 0, 0), 1);
            chosen(y, 1, 199, 2);
        }
        // at 1500: WEIGHTS 300 and 240; D 53040 by 540 is 98, I -27960 by 540 is -52: both lie 2 off, HALF 12; 1475 is TOLD then
        for (int what = 0; what < 2; what++) {
            NorthCurve x = new NorthCurve();
            datedAt(x, what == 0 ? 100 : 0, what == 1 ? -50 : 0, 0, 1500, 1500);
            text(x, "window 6;");
            x.edition();
            x.cost(hearthAt(x, what == 0 ? 96 : 0, what == 1 ? -54 : 0, 0), 1);
            chosen(x, 1, 98, 2);
        }
        // need 2: at 1500 one of its own, and the new one from 1455 to 1495
        NorthCurve w = new NorthCurve();
        datedAt(w, 0, 0, 0, 1475, 1500);
        datedAt(w, 0, 0, 0, 1475, 1475);
        text(w, "window 6;need 2;");
        w.edition();
        w.cost(hearthAt(w, 0, 0, 0), 1);
        chosen(w, 1, 100, 4);
        // more HALF and no KNOT newly TOLD: the empty set is better
        chosen(chance(500, 5, 300), 50, 0, 0);
        // less HALF: 5000 by 20 is 250, 5000 by (10 + 0 + 10) is 250: 10 * 250 by 500
        chosen(chance(500, 5, 0), 50, 5, 2);
        // as much: 0, so the empty one
        chosen(chance(500, 5, 10), 50, 0, 0);
        // 10 * 250 by (250 + 238): 5 of CONE 1: (2500 + 238) by 488 is 5
        chosen(chance(500, 5, 1), 50, 5, 2);
        // need 2: one own at 500 isn't TOLD alone, so nothing has YEARS
        NorthCurve z = new NorthCurve();
        datedAt(z, 0, 0, 0, 500, 500);
        datedAt(z, 0, 0, 0, 500, 525);
        text(z, "window 20;need 2;");
        z.edition();
        text(z, "");
        z.cost(hearthAt(z, 0, 0, 0), 1);
        // 500 is TOLD; 525 has one own, with the new one (5 from its SPAN) two; at 475 the new one is alone
        chosen(z, 1, 100, 4);
        z.cost(hearthAt(z, 0, 0, 0), 1);
        chosen(z, 1, 100, 4);
        chosen(z, 2, 200, 12);
    }

    private static void chooseSum() {
        promise = "3 at most, with COSTS together not above a sum; of several the set that is least as bits";
        NorthCurve x = new NorthCurve();
        for (int k = 0; k < 3; k++) datedAt(x, 0, 0, 0, 500, 500);
        text(x, "window 20;need 3;");
        x.edition();
        text(x, "");
        for (int h = 3; h < 8; h++) x.cost(hearthAt(x, 0, 0, 0), 100 - h);
        // three are needed at 475 and 525: the dearest are first
        chosen(x, 97 + 96 + 95, 200, 8 + 16 + 32);
        chosen(x, 97 + 96 + 95 - 1, 200, 8 + 16 + 64);
        chosen(x, 97 + 95 + 94, 200, 8 + 32 + 64);
        chosen(x, 96 + 95 + 94, 200, 16 + 32 + 64);
        chosen(x, 96 + 95 + 94 - 1, 200, 16 + 32 + 128);
        chosen(x, 95 + 94 + 93, 200, 32 + 64 + 128);
        chosen(x, 95 + 94 + 93 - 1, 0, 0);
        chosen(x, 0, 0, 0);
        chosen(x, 9999, 200, 8 + 16 + 32);
        for (int h = 3; h < 6; h++) x.cost(h, 999);
        chosen(x, 2997, 200, 8 + 16 + 32);
        chosen(x, 2996, 200, 8 + 16 + 64);
    }

    private static void chooseThree() {
        promise = "GAIN of some of them, 3 at most";
        NorthCurve x = new NorthCurve();
        for (int k = 0; k < 4; k++) datedAt(x, 0, 0, 0, 500, 500);
        text(x, "window 20;need 4;");
        x.edition();
        for (int h = 4; h < 12; h++) x.cost(hearthAt(x, 0, 0, 0), 1);
        // four would be needed
        chosen(x, 9999, 0, 0);
        // places far apart in D or in I, each alone 200: three of four
        for (int what = 0; what < 2; what++) {
            NorthCurve y = new NorthCurve();
            for (int k = 0; k < 4; k++) datedAt(y, what == 0 ? 300 * k : 0, what == 1 ? 300 * k : 0, 0, 200 + 300 * k, 200 + 300 * k);
            text(y, "window 20;");
            y.edition();
            for (int k = 3; k >= 0; k--) y.cost(hearthAt(y, what == 0 ? 300 * k : 0, what == 1 ? 300 * k : 0, 0), 10);
            chosen(y, 10, 200, 1 << 4);
            chosen(y, 19, 200, 1 << 4);
            chosen(y, 20, 400, 3 << 4);
            chosen(y, 30, 600, 7 << 4);
            chosen(y, 40, 600, 7 << 4);
            y.cost(4, 11);
            chosen(y, 30, 600, 14 << 4);
            chosen(y, 31, 600, 7 << 4);
            chosen(y, 10, 200, 1 << 5);
        }
    }

    private static void chooseAmongMany() {
        promise = "the EDITION made of its own and these, 14 and 10";
        NorthCurve x = new NorthCurve();
        for (int h = 0; h < 14; h++) datedAt(x, 0, 0, 0, h < 13 ? 500 : 1000, h < 13 ? 500 : 1000);
        text(x, "window 20;need 13;");
        x.edition();
        text(x, "");
        for (int h = 14; h < 24; h++) x.cost(hearthAt(x, 0, 0, 0), h < 23 ? 999 : 1);
        // 13 at 500 are just enough; at 475 there would be one
        chosen(x, 9999, 0, 0);
        text(x, "base 0;");
        // (13 * 1000 * 10) by 14000 is 9, by 15000 is 8, by 16000 is 8
        chosen(x, 1, 1, 1 << 23);
        chosen(x, 998, 1, 1 << 23);
        chosen(x, 999, 1, 1 << 14);
        chosen(x, 1000, 2, (1 << 14) + (1 << 23));
        chosen(x, 9999, 2, 3 << 14);
        NorthCurve y = new NorthCurve();
        for (int h = 0; h < 23; h++) datedAt(y, 0, 0, 0, h < 22 ? 500 : 475, 500);
        text(y, "window 20;need 2;");
        y.edition();
        text(y, "");
        y.cost(hearthAt(y, 0, 0, 0), 1);
        // the 23rd of its own and the new one are two at 475
        chosen(y, 1, 100, 1 << 23);
    }

    private static void chooseSmallWeights() {
        promise = "a WEIGHT above 0, D and I rounded down";
        for (int what = 0; what < 2; what++) {
            NorthCurve x = new NorthCurve();
            datedAt(x, 0, 0, 0, 500, 500);
            text(x, "window 15;");
            x.edition();
            text(x, "base 9000;");
            x.cost(hearthAt(x, what == 0 ? -1 : 0, what == 1 ? -1 : 0, 0), 1);
            // WEIGHTS 750 and 1 (1 at 475 and 525 too): -1 by 751 is -1: (750 * 11 + 9000) by 751 is 22
            chosen(x, 1, 188, 2);
        }
        NorthCurve y = new NorthCurve();
        datedAt(y, 0, 0, 0, 475, 500);
        datedAt(y, 0, 0, 0, 500, 500);
        text(y, "window 6;need 2;base 5900;");
        y.edition();
        due("475 isn't TOLD", LOST, y.curve(0, 475, 0));
        due("500 is", 5900, y.curve(0, 500, 3));
        text(y, "");
        y.cost(hearthAt(y, 0, 0, 0), 1);
        // WEIGHTS of 1 and 1 at 500, 1 at 475; the new one has 200 at 500, 33 at 475: HALF 13800 by 202 is 68
        chosen(y, 1, 100 + 5900 - 68, 4);
    }

    private static void chooseTogether() {
        promise = "GAIN of three at two places";
        NorthCurve x = new NorthCurve();
        for (int k = 0; k < 4; k++) datedAt(x, k < 2 ? 0 : 300, 0, 0, k < 2 ? 500 : 1000, k < 2 ? 500 : 1000);
        text(x, "window 20;need 2;");
        x.edition();
        text(x, "base 0;");
        for (int k = 0; k < 3; k++) x.cost(hearthAt(x, k == 1 ? 300 : 0, 0, 0), 1);
        // one of the first place: 20000 by 3000 is 6; both: 20000 by 4000 is 5, and 475 and 525; the second place alone: 4
        chosen(x, 1, 4, 1 << 4);
        chosen(x, 2, 205, 5 << 4);
        chosen(x, 3, 209, 7 << 4);
    }

    private static void stale() {
        promise = "STALE, if its PIECES by the latest EDITION now are others (in number, YEARS or parts)";
        NorthCurve x = lone(500, 1000);
        int h = hearthAt(x, 0, 0, 0);
        x.report(h, 0);
        x.report(0, 0);
        x.hearth(0);
        due("no MEAN", NONE, x.report(3, 0));
        due("at once", 0, x.reportOf(0, 6));
        x.tilt(h, 1, 0);
        due("WEIGHTS are others, parts alike", 0, x.reportOf(0, 6));
        x.tilt(h, 0, 0);
        // another EDITION just like it
        text(x, "window 20;");
        x.edition();
        due("by another one just like it", 0, x.reportOf(0, 6));
        // one KNOT at 1000 more
        text(x, "window 26;");
        x.edition();
        due("other YEARS", 1, x.reportOf(0, 6));
        due("other YEARS", 1, x.reportOf(1, 6));
        due("it keeps its first", 500, x.reportOf(0, 4));
        due("it keeps its last", 1000, x.reportOf(0, 5));
        text(x, "window 20;");
        x.edition();
        due("by the latest EDITION, as it was", 0, x.reportOf(0, 6));
        due("as it was", 0, x.reportOf(1, 6));
        // in number: a third one
        datedAt(x, 0, 0, 0, 1500, 1500);
        due("not before the EDITION", 0, x.reportOf(0, 6));
        x.edition();
        due("in number", 1, x.reportOf(0, 6));
        due("in number", 1, x.reportOf(1, 6));
        due("it keeps them", 2, x.reportOf(0, 3));
        due("a report by an old EDITION", 2, x.report(h, 0));
        due("is STALE at once", 1, x.reportOf(2, 6));
        due("a report by the latest one", 3, x.report(h, 4));
        due("isn't", 0, x.reportOf(3, 6));
        x.day(7);
        due("days alone change nothing", 0, x.reportOf(3, 6));
        due("its DAY", 0, x.reportOf(3, 2));
        due("a report", 4, x.report(h, 4));
        due("its DAY", 7, x.reportOf(4, 2));
        text(x, "drop if hearth=2;");
        due("no MEAN: no PIECES", 1, x.reportOf(3, 6));
        due("of another one", 1, x.reportOf(1, 6));
        due("it keeps its HEARTH", 2, x.reportOf(3, 0));
        due("its EDITION", 4, x.reportOf(3, 1));
        // once it is of the latest EDITION, by that made without it
        text(x, "window 20;");
        x.witness(h, 0, 250, 250);
        x.edition();
        due("without itself", 0, x.reportOf(3, 6));
        due("250 isn't of it", 3, x.date(h, 5, false));
        // a REPORT without PIECES
        NorthCurve y = lone(500);
        y.report(0, 0);
        due("PIECES", 0, y.reportOf(0, 3));
        due("first", NONE, y.reportOf(0, 4));
        due("last", NONE, y.reportOf(0, 5));
        due("STALE", 0, y.reportOf(0, 6));
        text(y, "drop if 1=1;");
        due("still none", 0, y.reportOf(0, 6));
        text(y, "");
        datedAt(y, 0, 0, 0, 500, 500);
        y.edition();
        due("some now", 1, y.reportOf(0, 6));
        // a last YEAR alone, a first YEAR alone
        NorthCurve z = new NorthCurve();
        datedAt(z, 0, 0, 0, 500, 600);
        text(z, "window 1;");
        z.edition();
        h = hearthAt(z, 0, 0, 0);
        z.report(h, 0);
        z.witness(0, 0, 500, 625);
        z.edition();
        due("the last YEAR", 1, z.reportOf(0, 6));
        z.witness(0, 0, 475, 600);
        z.edition();
        due("the first YEAR", 1, z.reportOf(0, 6));
        z.witness(0, 0, 499, 601);
        z.edition();
        due("neither", 0, z.reportOf(0, 6));
    }
}
