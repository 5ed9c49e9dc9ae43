import java.util.Arrays;
import java.util.NoSuchElementException;

/**
 * A house that reads the wandering north out of burnt clay. What it must answer is told, promise by
 * promise, in DOC.md; the words in capitals there are the names of the classes and fields here.
 */
public final class NorthCurve {
    public static final int NONE = -1;
    public static final int LOST = -2000000;

    private static final int LAST_YEAR = 1500;
    private static final int STEP = 25;
    private static final int KNOTS = 61;
    private static final int ZONES = 6;
    private static final int HEARTHS = 24;
    private static final int CUBES = 12;
    private static final int MACHINES = 4;
    private static final int PIECES_MEASURED = 10;
    private static final int SORTS = 3;
    private static final int COIN = 1;
    private static final int LAWS = 20;
    private static final int EDITIONS = 12;
    private static final int REPORTS = 40;
    private static final int LAST_DAY = 100000;
    private static final int TAPE = 400;

    /** The fates of a CUBE. */
    private static final int LEFT = 0;
    private static final int BY_RULE = 1;
    private static final int TOO_FAR = 2;

    /** Places in a MEAN and in the rows of a curve; behind S each has its own. */
    private static final int D = 0;
    private static final int I = 1;
    private static final int S = 2;
    private static final int CONE = 3;
    private static final int HOW_MANY = 4;
    private static final int HALF = 3;
    private static final int TOLD = 4;

    /** The words of the language of RULES; a word's number is its place in its list. */
    private static final String STATEMENTS = "drop limit keep base doubt use skip window need strength";
    private static final int DROP = 0;
    private static final int LIMIT = 1;
    private static final int KEEP = 2;
    private static final int BASE = 3;
    private static final int DOUBT = 4;
    private static final int USE = 5;
    private static final int SKIP = 6;
    private static final int WINDOW = 7;
    private static final int NEED = 8;
    private static final int STRENGTH = 9;
    /** What holds where a text doesn't say it, each at its word's number. */
    private static final int[] UNSAID = {0, 9999, 3, 10, 0, 0, 0, 100, 1, -1};
    private static final String CUBE_NAMES = "d i s machine cube hearth zone";
    private static final String HEARTH_NAMES = "hearth zone cubes from to length wood coin writ";

    /** In a compiled COND numbers stand for themselves, names from here on, signs below 0. */
    private static final int NAME = 10000;

    private final Reading reading;
    private final Archive archive;
    private final Scribe scribe;
    private final Edition[] editions;
    private int editionCount;
    private final Report[] reports;
    private int reportCount;
    private final Curve spare;
    private final Dating dating;
    private final Site site;
    private final Choice choice;

    public NorthCurve() {
        reading = new Reading();
        archive = reading.archive;
        scribe = new Scribe();
        editions = new Edition[EDITIONS];
        reports = new Report[REPORTS];
        spare = new Curve();
        dating = new Dating();
        site = new Site();
        choice = new Choice();
    }

    // ---- what is told -------------------------------------------------------------------------

    public boolean zone(int zone, int d, int i) {
        if (!within(zone, 0, ZONES - 1) || !within(d, -200, 200) || !within(i, -200, 200)) return false;
        put(archive.turnD, zone, d);
        put(archive.turnI, zone, i);
        return true;
    }

    public int hearth(int zone) {
        if (!within(zone, 0, ZONES - 1) || archive.hearths >= HEARTHS) return NONE;
        put(archive.zone, archive.hearths, zone);
        archive.hearths++;
        return archive.hearths - 1;
    }

    public boolean tilt(int hearth, int d, int i) {
        if (!archive.isHearth(hearth) || !within(d, -300, 300) || !within(i, -300, 300)) return false;
        return archive.tilts.tell(archive.today, hearth, d, i);
    }

    public boolean cost(int hearth, int v) {
        if (!archive.isHearth(hearth) || !within(v, 0, 999)) return false;
        put(archive.cost, hearth, v);
        return true;
    }

    public boolean twice(int machine, int piece, int d, int i) {
        if (!within(machine, 0, MACHINES - 1) || !within(piece, 0, PIECES_MEASURED - 1)) return false;
        if (!isDirection(d, i)) return false;
        return archive.doubles.tell(archive.today, machine * PIECES_MEASURED + piece, d, i);
    }

    public int cube(int hearth, int machine, int d, int i, int s) {
        if (!archive.isHearth(hearth) || !within(machine, 0, MACHINES - 1)) return NONE;
        if (!isDirection(d, i) || !within(s, 0, 999)) return NONE;
        return archive.addCube(hearth, machine, d, i, s);
    }

    public boolean witness(int hearth, int sort, int from, int to) {
        if (!archive.isHearth(hearth) || !within(sort, 0, SORTS - 1)) return false;
        if (!within(from, 0, LAST_YEAR) || !within(to, from, LAST_YEAR)) return false;
        return archive.witnesses.tell(archive.today, hearth * SORTS + sort, from, to);
    }

    public boolean order(int earlier, int later) {
        if (!archive.isHearth(earlier) || !archive.isHearth(later)) return false;
        if (archive.isOrdered(earlier, later) || archive.isAhead(later, earlier)) return false;
        return archive.orders.tell(archive.today, earlier * HEARTHS + later, earlier, later);
    }

    public int feed(int a, int b, int c, int d, int e) {
        if (!scribe.hasRoom(20)) return NONE;
        scribe.append(a);
        scribe.append(b);
        scribe.append(c);
        scribe.append(d);
        scribe.append(e);
        return scribe.size;
    }

    public int end(int n) {
        if (!within(n, 0, scribe.size)) return NONE;
        scribe.size = n;
        return n;
    }

    public int rules() {
        if (archive.lawCount >= LAWS) return NONE;
        int statements = scribe.compile();
        scribe.size = 0;
        if (scribe.fault != 0) return -1 - scribe.fault;
        archive.addLaw(scribe.law(archive.today));
        return statements;
    }

    public int place() {
        return scribe.faultPlace;
    }

    public int day(int n) {
        if (!within(n, 0, 1000) || archive.today + n > LAST_DAY) return NONE;
        archive.today += n;
        return archive.today;
    }

    // ---- as it was known on a day -------------------------------------------------------------

    public int bias(int machine, int what, int known) {
        if (!within(machine, 0, MACHINES - 1) || !within(what, 0, 1) || !isKnown(known)) return LOST;
        reading.asKnownOn(known);
        return what == 0 ? at(reading.biasD, machine) : at(reading.biasI, machine);
    }

    public int dropped(int hearth, int cube, int known) {
        if (!readsCube(hearth, cube, known)) return NONE;
        return at(reading.fate, cube);
    }

    public int right(int hearth, int cube, int what, int known) {
        if (!within(what, 0, 2) || !readsCube(hearth, cube, known)) return LOST;
        if (what == D) return at(reading.d, cube);
        return what == I ? at(reading.i, cube) : at(reading.s, cube);
    }

    public int mean(int hearth, int what, int known) {
        if (!within(what, 0, 4) || !reads(hearth, known) || !reading.hasMean()) return LOST;
        return at(reading.mean, what);
    }

    public int span(int hearth, int what, int known) {
        if (!within(what, 0, 1) || !reads(hearth, known)) return NONE;
        return what == 0 ? reading.from : reading.to;
    }

    public int dated(int hearth, int known) {
        if (!reads(hearth, known)) return NONE;
        if (reading.isQuarrel()) return 2;
        return reading.isDated() ? 1 : 0;
    }

    // ---- editions -----------------------------------------------------------------------------

    public int edition() {
        if (editionCount >= EDITIONS) return NONE;
        Edition made = null;
        reading.asKnownOn(archive.today);
        for (int h = 0; h < archive.hearths; h++) {
            reading.read(h);
            if (reading.isDated()) {
                if (made == null) made = new Edition(reading.law);
                made.add(h, reading.mean, reading.from, reading.to);
            }
        }
        if (made == null || !within(editionCount, 0, editions.length - 1)) return NONE;
        made.curve.make(made, NONE);
        editions[editionCount] = made;
        editionCount++;
        return editionCount - 1;
    }

    public int curve(int edition, int year, int what) {
        Edition of = editionAt(edition);
        if (of == null || !within(year, 0, LAST_YEAR) || !within(what, D, HALF)) return LOST;
        return of.curve.valueAt(year, what);
    }

    public int without(int edition, int hearth, int year, int what) {
        Edition of = editionAt(edition);
        if (of == null || !within(year, 0, LAST_YEAR) || !within(what, D, HALF)) return LOST;
        if (!of.has(hearth)) return LOST;
        spare.make(of, hearth);
        return spare.valueAt(year, what);
    }

    public int uses(int edition, int hearth) {
        Edition of = editionAt(edition);
        if (of == null || !archive.isHearth(hearth)) return NONE;
        return of.has(hearth) ? 1 : 0;
    }

    public int changed(int e, int f) {
        Edition one = editionAt(e);
        Edition other = editionAt(f);
        if (one == null || other == null) return NONE;
        return one.curve.unlikeKnots(other.curve);
    }

    // ---- dates --------------------------------------------------------------------------------

    public int date(int hearth, int edition, boolean site) {
        Edition by = editionAt(edition);
        if (site) settleSite(by);
        return makesDate(hearth, by, site) ? dating.pieces : NONE;
    }

    public int piece(int hearth, int edition, boolean site, int i, int what) throws NoSuchElementException {
        Edition by = editionAt(edition);
        if (site) settleSite(by);
        boolean isThere = within(what, 0, 2) && makesDate(hearth, by, site) && within(i, 0, dating.pieces - 1);
        if (!isThere) throw new NoSuchElementException();
        return dating.pieceAt(i, what);
    }

    public int quarrels(int edition) {
        Edition by = editionAt(edition);
        if (by == null) return NONE;
        settleSite(by);
        int quarrels = 0;
        for (int h = 0; h < archive.hearths; h++) {
            if (site.hadYears(h) && !site.hasYears(h)) quarrels++;
        }
        return quarrels;
    }

    public int test(int edition, int what) {
        Edition by = editionAt(edition);
        if (by == null || !within(what, 0, 1)) return NONE;
        int tried = 0;
        int right = 0;
        for (int m = 0; m < by.size; m++) {
            if (makesOwnDate(at(by.hearth, m), by) && dating.pieces > 0) {
                tried++;
                if (dating.meets(at(by.from, m), at(by.to, m))) right++;
            }
        }
        return what == 0 ? tried : right;
    }

    public int choose(int edition, int sum, int what) {
        Edition by = editionAt(edition);
        if (by == null || !within(sum, 0, 9999) || !within(what, 0, 1)) return LOST;
        choice.open(by);
        for (int h = 0; h < archive.hearths && !choice.isFull(); h++) {
            if (at(archive.cost, h) > 0 && !by.has(h) && makesOwnDate(h, by) && dating.pieces > 0) {
                choice.add(h, at(archive.cost, h), reading.mean, dating.middleOfHeaviest(), by.window);
            }
        }
        choice.findBest(sum);
        return what == 0 ? choice.gain : choice.bits;
    }

    // ---- reports and counts -------------------------------------------------------------------

    public int report(int hearth, int edition) {
        if (!within(reportCount, 0, reports.length - 1)) return NONE;
        if (!makesDate(hearth, editionAt(edition), false)) return NONE;
        reports[reportCount] = new Report(hearth, edition, archive.today, dating.rows());
        reportCount++;
        return reportCount - 1;
    }

    public int reportOf(int report, int what) {
        Report of = within(report, 0, reportCount - 1) && report < reports.length ? reports[report] : null;
        if (of == null) return NONE;
        switch (what) {
            case 0: return of.hearth;
            case 1: return of.edition;
            case 2: return of.made;
            case 3: return of.pieces();
            case 4: return of.firstYear();
            case 5: return of.lastYear();
            case 6: return isStale(of) ? 1 : 0;
            default: return NONE;
        }
    }

    public int of(int hearth, int what) {
        if (!archive.isHearth(hearth)) return NONE;
        switch (what) {
            case 0: return at(archive.zone, hearth);
            case 1: return at(archive.cubes, hearth);
            case 2: return at(archive.cost, hearth);
            case 3: return archive.orders.howManyB(hearth);
            case 4: return archive.orders.howManyA(hearth);
            default: return NONE;
        }
    }

    public int count(int what) {
        switch (what) {
            case 0: return archive.hearths;
            case 1: return archive.today;
            case 2: return archive.doubles.size;
            case 3: return archive.tilts.size;
            case 4: return archive.witnesses.size;
            case 5: return archive.orders.size;
            case 6: return archive.lawCount;
            case 7: return editionCount;
            case 8: return reportCount;
            case 9: return scribe.size;
            default: return NONE;
        }
    }

    // ---- what the face is made of -------------------------------------------------------------

    private boolean isKnown(int day) {
        return within(day, 0, archive.today);
    }

    /** Reads a HEARTH as known on a DAY; false: no such ones. */
    private boolean reads(int hearth, int known) {
        if (!archive.isHearth(hearth) || !isKnown(known)) return false;
        reading.asKnownOn(known);
        reading.read(hearth);
        return true;
    }

    private boolean readsCube(int hearth, int cube, int known) {
        return reads(hearth, known) && within(cube, 0, reading.cubes - 1);
    }

    private Edition editionAt(int edition) {
        return within(edition, 0, editionCount - 1) && edition < editions.length ? editions[edition] : null;
    }

    /** Makes the DATE of a HEARTH (the site must be settled before); false: no such ones, no MEAN. */
    private boolean makesDate(int hearth, Edition by, boolean onSite) {
        if (!archive.isHearth(hearth) || !makesOwnDate(hearth, by)) return false;
        if (onSite) dating.cut(site.least(hearth), site.greatest(hearth));
        return true;
    }

    /** Makes the DATE of a HEARTH without ORDER; false: it has no MEAN. */
    private boolean makesOwnDate(int hearth, Edition by) {
        if (by == null) return false;
        reading.asKnownOn(archive.today);
        reading.read(hearth);
        if (!reading.hasMean()) return false;
        if (by.has(hearth)) {
            spare.make(by, hearth);
            dating.make(spare, reading.mean, by.strength);
        } else {
            dating.make(by.curve, reading.mean, by.strength);
        }
        return true;
    }

    private void settleSite(Edition by) {
        site.clear();
        for (int h = 0; h < archive.hearths; h++) {
            if (makesOwnDate(h, by)) site.add(h, dating.weight, reading.firstOfCoin());
        }
        site.settle(archive.orders);
    }

    private boolean isStale(Report old) {
        Edition latest = editionAt(editionCount - 1);
        boolean hasMean = makesOwnDate(old.hearth, latest);
        return hasMean ? !dating.isLike(old.rows) : old.pieces() > 0;
    }

    // ---- small helps --------------------------------------------------------------------------

    private static boolean within(int v, int least, int greatest) {
        return v >= least && v <= greatest;
    }

    private static boolean isDirection(int d, int i) {
        return within(d, -900, 900) && within(i, -900, 900);
    }

    /** What stands in a row at a place; 0 outside it, so that no place can throw. */
    private static int at(int[] row, int place) {
        return row != null && place >= 0 && place < row.length ? row[place] : 0;
    }

    private static void put(int[] row, int place, int v) {
        if (row != null && place >= 0 && place < row.length) row[place] = v;
    }

    private static long at(long[] row, int place) {
        return row != null && place >= 0 && place < row.length ? row[place] : 0;
    }

    private static void put(long[] row, int place, long v) {
        if (row != null && place >= 0 && place < row.length) row[place] = v;
    }

    /** A sum by how many, rounded down; 0 by none. */
    private static int down(long sum, long by) {
        if (by <= 0) return 0;
        long share = sum / by;
        return (int) (sum < share * by ? share - 1 : share);
    }

    private static int far(int a, int b) {
        return a > b ? a - b : b - a;
    }

    /** WEIGHT at a YEAR of one with this CONE and SPAN. */
    private static int weigh(int year, int window, int cone, int from, int to) {
        int gap = year < from ? from - year : year > to ? year - to : 0;
        if (gap >= window) return 0;
        return down((window - gap) * 1000L, 10 + cone + down(to - from, 4));
    }

    // ---- the classes inside -------------------------------------------------------------------

    /** Things told one behind the other, each on a day, under a key, with two numbers. */
    private static final class Told {
        final int[] day;
        final int[] key;
        final int[] a;
        final int[] b;
        int size;

        Told(int limit) {
            int length = limit > 0 ? limit : 0;
            day = new int[length];
            key = new int[length];
            a = new int[length];
            b = new int[length];
        }

        boolean tell(int onDay, int underKey, int first, int second) {
            if (size >= day.length) return false;
            put(day, size, onDay);
            put(key, size, underKey);
            put(a, size, first);
            put(b, size, second);
            size++;
            return true;
        }

        /** The place of what was told last under a key by a day; NONE without one. */
        int last(int underKey, int by) {
            for (int t = size - 1; t >= 0; t--) {
                if (at(key, t) == underKey && at(day, t) <= by) return t;
            }
            return NONE;
        }

        /** The same for all keys at once, in a row that has a place for each. */
        void lastOfAll(int[] row, int by) {
            if (row == null) return;
            Arrays.fill(row, NONE);
            for (int t = 0; t < size; t++) {
                if (at(day, t) <= by) put(row, at(key, t), t);
            }
        }

        int howManyA(int v) {
            int many = 0;
            for (int t = 0; t < size; t++) if (at(a, t) == v) many++;
            return many;
        }

        int howManyB(int v) {
            int many = 0;
            for (int t = 0; t < size; t++) if (at(b, t) == v) many++;
            return many;
        }
    }

    /** All that was told, with its days. The cubes of a hearth stand from hearth * CUBES on. */
    private static final class Archive {
        int today;
        final int[] turnD = new int[ZONES];
        final int[] turnI = new int[ZONES];
        int hearths;
        final int[] zone = new int[HEARTHS];
        final int[] cost = new int[HEARTHS];
        final int[] cubes = new int[HEARTHS];
        final int[] cubeDay = new int[HEARTHS * CUBES];
        final int[] cubeMachine = new int[HEARTHS * CUBES];
        final int[] cubeD = new int[HEARTHS * CUBES];
        final int[] cubeI = new int[HEARTHS * CUBES];
        final int[] cubeS = new int[HEARTHS * CUBES];
        final Told doubles = new Told(200);
        final Told tilts = new Told(100);
        final Told witnesses = new Told(150);
        final Told orders = new Told(60);
        final Law[] laws = new Law[LAWS];
        final Law noLaw = new Law(0, UNSAID, new int[0], new int[0]);
        int lawCount;

        boolean isHearth(int hearth) {
            return within(hearth, 0, hearths - 1);
        }

        int addCube(int hearth, int machine, int d, int i, int s) {
            int number = at(cubes, hearth);
            if (number >= CUBES) return NONE;
            int place = hearth * CUBES + number;
            put(cubeDay, place, today);
            put(cubeMachine, place, machine);
            put(cubeD, place, d);
            put(cubeI, place, i);
            put(cubeS, place, s);
            put(cubes, hearth, number + 1);
            return number;
        }

        void addLaw(Law law) {
            if (lawCount < 0 || lawCount >= laws.length) return;
            laws[lawCount] = law;
            lawCount++;
        }

        /** The text that counts on a day. */
        Law lawOn(int known) {
            for (int t = laws.length - 1; t >= 0; t--) {
                Law law = laws[t];
                if (law != null && law.told <= known) return law;
            }
            return noLaw;
        }

        boolean isOrdered(int earlier, int later) {
            return orders.last(earlier * HEARTHS + later, today) != NONE;
        }

        /** Whether orders lead from one hearth to another one, or it is the same. */
        boolean isAhead(int from, int to) {
            int reached = 1 << from;
            for (int round = 0; round < HEARTHS; round++) {
                for (int t = 0; t < orders.size; t++) {
                    if ((reached >> at(orders.a, t) & 1) == 1) reached |= 1 << at(orders.b, t);
                }
            }
            return (reached >> to & 1) == 1;
        }
    }

    /** One text of RULES, compiled: its settings, and its clauses with a COND as signs behind their parts. */
    private static final class Law {
        private static final int GREATEST = 1000000000;

        final int told;
        final int clauses;
        private final int[] settings;
        /** Of each clause three numbers: its word, its N, where its code ends. */
        private final int[] clause;
        private final int[] code;
        /** Four brackets leave some fourteen open at once. */
        private final int[] stack = new int[32];

        Law(int day, int[] settings, int[] clause, int[] code) {
            told = day;
            clauses = clause == null ? 0 : clause.length / 3;
            this.settings = settings;
            this.clause = clause;
            this.code = code;
        }

        int setting(int word) {
            return at(settings, word);
        }

        int word(int c) {
            return at(clause, 3 * c);
        }

        int number(int c) {
            return at(clause, 3 * c + 1);
        }

        /** Whether the COND of a clause holds for the numbers that its names have. */
        boolean holds(int c, int[] names) {
            int from = c > 0 ? at(clause, 3 * c - 1) : 0;
            int end = at(clause, 3 * c + 2);
            int top = 0;
            for (int k = from; k < end; k++) {
                int part = at(code, k);
                if (part == -'!') {
                    put(stack, top - 1, 1 - at(stack, top - 1));
                } else if (part < 0) {
                    top--;
                    put(stack, top - 1, joined(-part, at(stack, top - 1), at(stack, top)));
                } else {
                    put(stack, top, part < NAME ? part : at(names, part - NAME));
                    top++;
                }
            }
            return at(stack, 0) == 1;
        }

        private static int joined(int sign, int a, int b) {
            switch (sign) {
                case '<': return a < b ? 1 : 0;
                case '>': return a > b ? 1 : 0;
                case '=': return a == b ? 1 : 0;
                case '&': return a & b;
                case '|': return a | b;
                default:
            }
            long v = sign == '+' ? (long) a + b : sign == '-' ? (long) a - b : (long) a * b;
            return v > GREATEST ? GREATEST : v < -GREATEST ? -GREATEST : (int) v;
        }
    }

    /** The TAPE, and what makes a Law of it: reads token by token, and stops at the first FAULT. */
    private static final class Scribe {
        private static final int STATEMENT_LIMIT = 20;
        private static final int BRACKET_LIMIT = 4;
        private static final int WRONG_TOKEN = 1;
        private static final int WRONG_NUMBER = 2;
        private static final int WRONG_NAME = 3;
        private static final int TOO_MANY = 4;
        private static final int END = 0;
        private static final int WORD = 1;
        private static final int FIGURES = 2;
        private static final int SIGN = 3;

        final int[] tape = new int[TAPE];
        int size;
        int fault;
        int faultPlace = NONE;

        /** The token at hand: its kind, its first byte, the byte behind it, the sign if it is one. */
        private int kind;
        private int start;
        private int stop;
        private int sign;
        /** The number that was read last. */
        private int number;
        /** The names that the COND at hand may have. */
        private String names = CUBE_NAMES;

        private final int[] settings = new int[STRENGTH + 1];
        private final int[] clause = new int[3 * STATEMENT_LIMIT];
        private int clauses;
        private final int[] code = new int[TAPE];
        private int codeSize;

        boolean hasRoom(int bytes) {
            return size + bytes <= tape.length;
        }

        /** Four bytes, the highest first. */
        void append(int four) {
            for (int shift = 24; shift >= 0; shift -= 8) {
                put(tape, size, four >> shift & 255);
                size++;
            }
        }

        Law law(int day) {
            return new Law(day, Arrays.copyOf(settings, settings.length),
                    Arrays.copyOf(clause, within(clauses, 0, STATEMENT_LIMIT) ? 3 * clauses : 0),
                    Arrays.copyOf(code, within(codeSize, 0, TAPE) ? codeSize : 0));
        }

        /** Reads the whole TAPE: how many STATEMENTS; fault and faultPlace tell of a FAULT. */
        int compile() {
            fault = 0;
            faultPlace = NONE;
            clauses = 0;
            codeSize = 0;
            for (int word = 0; word < settings.length; word++) put(settings, word, at(UNSAID, word));
            stop = 0;
            step();
            int statements = 0;
            while (statements <= STATEMENT_LIMIT && kind != END) {
                if (!statement(statements)) return NONE;
                statements++;
            }
            return statements;
        }

        private boolean statement(int ahead) {
            int word = wordIn(STATEMENTS);
            if (word == NONE) return fail(WRONG_TOKEN);
            if (ahead >= STATEMENT_LIMIT) return fail(TOO_MANY);
            step();
            boolean isBare = word == DROP || word == USE || word == SKIP;
            number = 0;
            if (!isBare && !settingNumber(word)) return false;
            if (!isBare && word != DOUBT) {
                put(settings, word, number);
            } else if (!conditional(word, number)) {
                return false;
            }
            return mark(';');
        }

        private boolean settingNumber(int word) {
            int place = start;
            if (!figures()) return false;
            boolean mustBeSome = word == KEEP || word == WINDOW || word == NEED;
            boolean isWrong = mustBeSome && number == 0;
            if (word == KEEP && number > CUBES || word == NEED && number > HEARTHS) isWrong = true;
            return !isWrong || failAt(WRONG_NUMBER, place);
        }

        /** What stands from "if" on. */
        private boolean conditional(int word, int itsNumber) {
            if (!isWord("if")) return fail(WRONG_TOKEN);
            step();
            names = word == DROP ? CUBE_NAMES : HEARTH_NAMES;
            if (!condition(0)) return false;
            put(clause, 3 * clauses, word);
            put(clause, 3 * clauses + 1, itsNumber);
            put(clause, 3 * clauses + 2, codeSize);
            clauses++;
            return true;
        }

        /** COND; depth: how many brackets are open. */
        private boolean condition(int depth) {
            boolean isFine = both(depth);
            for (int k = 0; k < TAPE && isFine && isWord("or"); k++) {
                step();
                isFine = both(depth) && emit(-'|');
            }
            return isFine;
        }

        private boolean both(int depth) {
            boolean isFine = part(depth);
            for (int k = 0; k < TAPE && isFine && isWord("and"); k++) {
                step();
                isFine = part(depth) && emit(-'&');
            }
            return isFine;
        }

        private boolean part(int depth) {
            boolean isNot = false;
            for (int k = 0; k < TAPE && isWord("not"); k++) {
                step();
                isNot = !isNot;
            }
            if (sign == '[') {
                if (depth >= BRACKET_LIMIT) return fail(TOO_MANY);
                step();
                if (!condition(depth + 1) || !mark(']')) return false;
            } else {
                if (!sum(depth)) return false;
                int by = sign;
                if (by != '<' && by != '>' && by != '=') return fail(WRONG_TOKEN);
                step();
                if (!sum(depth) || !emit(-by)) return false;
            }
            return !isNot || emit(-'!');
        }

        private boolean sum(int depth) {
            boolean isFine = product(depth);
            for (int k = 0; k < TAPE && isFine && (sign == '+' || sign == '-'); k++) {
                int by = sign;
                step();
                isFine = product(depth) && emit(-by);
            }
            return isFine;
        }

        private boolean product(int depth) {
            boolean isFine = factor(depth);
            for (int k = 0; k < TAPE && isFine && sign == '*'; k++) {
                step();
                isFine = factor(depth) && emit(-'*');
            }
            return isFine;
        }

        private boolean factor(int depth) {
            if (kind == FIGURES) return figures() && emit(number);
            if (kind == WORD) {
                int name = wordIn(names);
                if (name == NONE) return fail(WRONG_NAME);
                step();
                return emit(NAME + name);
            }
            if (sign != '(') return fail(WRONG_TOKEN);
            if (depth >= BRACKET_LIMIT) return fail(TOO_MANY);
            step();
            return sum(depth + 1) && mark(')');
        }

        /** N. */
        private boolean figures() {
            if (kind != FIGURES || stop - start > 4) return fail(WRONG_TOKEN);
            number = 0;
            for (int k = start; k < stop; k++) number = 10 * number + at(tape, k) - '0';
            step();
            return true;
        }

        private boolean mark(int due) {
            if (sign != due) return fail(WRONG_TOKEN);
            step();
            return true;
        }

        private boolean emit(int part) {
            put(code, codeSize, part);
            codeSize++;
            return true;
        }

        private boolean fail(int what) {
            return failAt(what, start);
        }

        private boolean failAt(int what, int place) {
            fault = what;
            faultPlace = place;
            return false;
        }

        /** Goes to the next token. */
        private void step() {
            while (stop < size && (at(tape, stop) == ' ' || at(tape, stop) == 10)) stop++;
            start = stop;
            sign = NONE;
            if (start >= size) {
                kind = END;
                return;
            }
            int first = at(tape, start);
            stop++;
            if (within(first, 'a', 'z')) {
                kind = WORD;
                while (stop < size && within(at(tape, stop), 'a', 'z')) stop++;
            } else if (within(first, '0', '9')) {
                kind = FIGURES;
                while (stop < size && within(at(tape, stop), '0', '9')) stop++;
            } else {
                kind = SIGN;
                sign = first;
            }
        }

        private boolean isWord(String word) {
            return wordIn(word) == 0;
        }

        /** The place of the token in a list of words with one blank between; NONE if it isn't there. */
        private int wordIn(String list) {
            if (kind != WORD || list == null) return NONE;
            int word = 0;
            int k = start;
            boolean isLike = true;
            for (int c = 0; c <= list.length(); c++) {
                int letter = c < list.length() ? list.charAt(c) : ' ';
                if (letter != ' ') {
                    isLike = isLike && k < stop && at(tape, k) == letter;
                    k++;
                } else {
                    if (isLike && k == stop) return word;
                    word++;
                    k = start;
                    isLike = true;
                }
            }
            return NONE;
        }
    }

    /** What is known on a day, of one hearth after another one; the fields tell of the latest. */
    private static final class Reading {
        final Archive archive = new Archive();
        private int known;
        Law law = archive.noLaw;
        private final int[] latest = new int[MACHINES * PIECES_MEASURED];
        final int[] biasD = new int[MACHINES];
        final int[] biasI = new int[MACHINES];

        private int hearth;
        /** The places of the WITNESSES that count, by sort; NONE without. */
        private final int[] witness = new int[SORTS];
        int from;
        int to;
        /** How many CUBES are told by then; of each D, I, S as PUT RIGHT, and its fate. */
        int cubes;
        final int[] d = new int[CUBES];
        final int[] i = new int[CUBES];
        final int[] s = new int[CUBES];
        final int[] fate = new int[CUBES];
        private int left;
        private int middleD;
        private int middleI;
        final int[] mean = new int[HOW_MANY + 1];
        private final int[] names = new int[9];

        void asKnownOn(int day) {
            known = day;
            law = archive.lawOn(day);
            archive.doubles.lastOfAll(latest, day);
            for (int machine = 0; machine < MACHINES; machine++) {
                put(biasD, machine, biasIn(archive.doubles.a, machine));
                put(biasI, machine, biasIn(archive.doubles.b, machine));
            }
        }

        private int biasIn(int[] row, int machine) {
            int both = 0;
            long sum = 0;
            for (int piece = 0; piece < PIECES_MEASURED; piece++) {
                int own = at(latest, machine * PIECES_MEASURED + piece);
                int first = at(latest, piece);
                if (own != NONE && first != NONE) {
                    both++;
                    sum += at(row, own) - at(row, first);
                }
            }
            return down(sum, both);
        }

        void read(int number) {
            hearth = number;
            readSpan();
            putRight();
            dropByRule();
            dropTooFar();
            readMean();
        }

        boolean hasMean() {
            return left > 0;
        }

        boolean isQuarrel() {
            return from > to;
        }

        boolean isDated() {
            boolean hasLast = at(witness, 0) != NONE || at(witness, 2) != NONE;
            return left > 0 && hasLast && !isQuarrel() && !isSkipped();
        }

        int firstOfCoin() {
            int coin = at(witness, COIN);
            return coin == NONE ? 0 : at(archive.witnesses.a, coin);
        }

        private void readSpan() {
            from = 0;
            to = LAST_YEAR;
            for (int sort = 0; sort < SORTS; sort++) {
                int told = archive.witnesses.last(hearth * SORTS + sort, known);
                put(witness, sort, told);
                if (told != NONE) {
                    from = Math.max(from, at(archive.witnesses.a, told));
                    if (sort != COIN) to = Math.min(to, at(archive.witnesses.b, told));
                }
            }
        }

        private void putRight() {
            int tilt = archive.tilts.last(hearth, known);
            int tiltD = tilt == NONE ? 0 : at(archive.tilts.a, tilt);
            int tiltI = tilt == NONE ? 0 : at(archive.tilts.b, tilt);
            int all = at(archive.cubes, hearth);
            cubes = 0;
            for (int c = 0; c < all; c++) {
                int place = hearth * CUBES + c;
                if (at(archive.cubeDay, place) > known) break;
                int machine = at(archive.cubeMachine, place);
                put(d, c, at(archive.cubeD, place) - at(biasD, machine) + tiltD);
                put(i, c, at(archive.cubeI, place) - at(biasI, machine) + tiltI);
                put(s, c, at(archive.cubeS, place));
                put(fate, c, LEFT);
                cubes++;
            }
            left = cubes;
        }

        private void dropByRule() {
            put(names, 5, hearth);
            put(names, 6, at(archive.zone, hearth));
            for (int c = 0; c < cubes; c++) {
                put(names, 0, at(d, c));
                put(names, 1, at(i, c));
                put(names, 2, at(s, c));
                put(names, 3, at(archive.cubeMachine, hearth * CUBES + c));
                put(names, 4, c);
                for (int k = 0; k < law.clauses; k++) {
                    if (law.word(k) == DROP && law.holds(k, names)) {
                        put(fate, c, BY_RULE);
                        left--;
                        break;
                    }
                }
            }
        }

        private void dropTooFar() {
            findMiddle();
            for (int round = 0; round < CUBES && left > law.setting(KEEP); round++) {
                int worst = NONE;
                int most = law.setting(LIMIT);
                for (int c = 0; c < cubes; c++) {
                    if (at(fate, c) == LEFT && fromMiddle(c) > most) {
                        worst = c;
                        most = fromMiddle(c);
                    }
                }
                if (worst == NONE) return;
                put(fate, worst, TOO_FAR);
                left--;
                findMiddle();
            }
        }

        private void findMiddle() {
            int sumD = 0;
            int sumI = 0;
            for (int c = 0; c < cubes; c++) {
                if (at(fate, c) == LEFT) {
                    sumD += at(d, c);
                    sumI += at(i, c);
                }
            }
            middleD = down(sumD, left);
            middleI = down(sumI, left);
        }

        private int fromMiddle(int c) {
            return far(at(d, c), middleD) + far(at(i, c), middleI);
        }

        private void readMean() {
            nameHearth();
            int zone = at(archive.zone, hearth);
            put(mean, D, middleD + at(archive.turnD, zone));
            put(mean, I, middleI + at(archive.turnI, zone));
            int sumS = 0;
            int away = 0;
            for (int c = 0; c < cubes; c++) {
                if (at(fate, c) == LEFT) {
                    sumS += at(s, c);
                    away += fromMiddle(c);
                }
            }
            put(mean, S, down(sumS, left));
            put(mean, HOW_MANY, left);
            int cone = down(away, left) + law.setting(BASE);
            for (int k = 0; k < law.clauses; k++) {
                if (law.word(k) == DOUBT && law.holds(k, names)) cone += law.number(k);
            }
            put(mean, CONE, cone);
        }

        private void nameHearth() {
            put(names, 0, hearth);
            put(names, 1, at(archive.zone, hearth));
            put(names, 2, left);
            put(names, 3, from);
            put(names, 4, to);
            put(names, 5, to - from);
            for (int sort = 0; sort < SORTS; sort++) put(names, 6 + sort, at(witness, sort) == NONE ? 0 : 1);
        }

        /** Whether the last use or skip that holds is a skip. */
        private boolean isSkipped() {
            for (int k = law.clauses - 1; k >= 0; k--) {
                int word = law.word(k);
                if ((word == USE || word == SKIP) && law.holds(k, names)) return word == SKIP;
            }
            return false;
        }
    }

    /** D, I, S, HALF at the KNOTS, and which are TOLD; all are 0 at one that isn't. */
    private static final class Curve {
        private final int[] cell = new int[(TOLD + 1) * KNOTS];
        private final int[] weight = new int[HEARTHS];

        boolean isTold(int knot) {
            return within(knot, 0, KNOTS - 1) && cellAt(TOLD, knot) == 1;
        }

        int cellAt(int what, int knot) {
            return at(cell, what * KNOTS + knot);
        }

        private void putCell(int what, int knot, int v) {
            put(cell, what * KNOTS + knot, v);
        }

        /** The curve of an EDITION made without one of its HEARTHS (NONE: with all). */
        void make(Edition of, int without) {
            if (of == null) return;
            for (int knot = 0; knot < KNOTS; knot++) {
                for (int m = 0; m < of.size; m++) {
                    put(weight, m, at(of.hearth, m) == without ? 0 : of.weightAt(m, knot * STEP));
                }
                makeKnot(of, knot);
            }
        }

        private void makeKnot(Edition of, int knot) {
            for (int what = D; what <= TOLD; what++) putCell(what, knot, 0);
            int many = 0;
            for (int m = 0; m < of.size; m++) if (at(weight, m) > 0) many++;
            if (many < of.need || many == 0) return;
            putCell(TOLD, knot, 1);
            putCell(D, knot, shared(of.d, of.size));
            putCell(I, knot, shared(of.i, of.size));
            putCell(S, knot, shared(of.s, of.size));
            putCell(HALF, knot, halfAt(of, cellAt(D, knot), cellAt(I, knot)));
        }

        /** The sum of WEIGHT times each, by all WEIGHTS. */
        private int shared(int[] row, int size) {
            long all = 0;
            long sum = 0;
            for (int m = 0; m < size; m++) {
                all += at(weight, m);
                sum += (long) at(weight, m) * at(row, m);
            }
            return down(sum, all);
        }

        private int halfAt(Edition of, int d, int i) {
            long all = 0;
            long sum = 0;
            for (int m = 0; m < of.size; m++) {
                all += at(weight, m);
                int away = Math.max(far(at(of.d, m), d), far(at(of.i, m), i));
                sum += (long) at(weight, m) * (at(of.cone, m) + away);
            }
            return down(sum, all);
        }

        /** So many YEARS behind a KNOT, straight to the next one. */
        int between(int what, int knot, int years) {
            int from = at(cell, what * KNOTS + knot);
            if (years == 0) return from;
            int to = at(cell, what * KNOTS + knot + 1);
            return from + down((long) (to - from) * years, STEP);
        }

        int valueAt(int year, int what) {
            int knot = year / STEP;
            int years = year % STEP;
            if (!isTold(knot) || years > 0 && !isTold(knot + 1)) return LOST;
            return between(what, knot, years);
        }

        int unlikeKnots(Curve other) {
            if (other == null) return 0;
            int many = 0;
            for (int knot = 0; knot < KNOTS; knot++) {
                boolean isLike = true;
                for (int what = D; what <= TOLD; what++) {
                    if (cellAt(what, knot) != other.cellAt(what, knot)) isLike = false;
                }
                if (!isLike) many++;
            }
            return many;
        }
    }

    /** What an EDITION keeps of the HEARTHS that were DATED, and its curve. */
    private static final class Edition {
        final int window;
        final int need;
        final int strength;
        int size;
        private int members;
        final int[] hearth = new int[HEARTHS];
        final int[] d = new int[HEARTHS];
        final int[] i = new int[HEARTHS];
        final int[] s = new int[HEARTHS];
        final int[] cone = new int[HEARTHS];
        final int[] from = new int[HEARTHS];
        final int[] to = new int[HEARTHS];
        final Curve curve = new Curve();

        Edition(Law law) {
            window = law == null ? 0 : law.setting(WINDOW);
            need = law == null ? 0 : law.setting(NEED);
            strength = law == null ? NONE : law.setting(STRENGTH);
        }

        void add(int number, int[] mean, int first, int last) {
            if (!within(number, 0, HEARTHS - 1)) return;
            put(hearth, size, number);
            put(d, size, at(mean, D));
            put(i, size, at(mean, I));
            put(s, size, at(mean, S));
            put(cone, size, at(mean, CONE));
            put(from, size, first);
            put(to, size, last);
            members |= 1 << number;
            size++;
        }

        boolean has(int number) {
            return within(number, 0, HEARTHS - 1) && (members >> number & 1) == 1;
        }

        int weightAt(int m, int year) {
            return weigh(year, window, at(cone, m), at(from, m), at(to, m));
        }
    }

    /** A DATE: the WEIGHT of each YEAR, 0 of one that is not of it, and its PIECES. */
    private static final class Dating {
        /** As many as can be: every other YEAR. */
        private static final int MOST = 751;

        final int[] weight = new int[LAST_YEAR + 1];
        int pieces;
        private final int[] first = new int[MOST];
        private final int[] last = new int[MOST];
        /** CONE and HALF stay below 220000 each, so that all WEIGHTS together stay an int. */
        private final int[] sum = new int[MOST];
        private int all;

        void make(Curve by, int[] mean, int strength) {
            Arrays.fill(weight, 0);
            if (by == null) return;
            for (int knot = 0; knot < KNOTS; knot++) {
                if (by.isTold(knot)) {
                    int years = by.isTold(knot + 1) ? STEP : 1;
                    for (int k = 0; k < years; k++) put(weight, knot * STEP + k, weightAt(by, knot, k, mean, strength));
                }
            }
            collect();
        }

        private static int weightAt(Curve by, int knot, int years, int[] mean, int strength) {
            int reach = at(mean, CONE) + by.between(HALF, knot, years);
            int farD = far(at(mean, D), by.between(D, knot, years));
            if (farD > reach) return 0;
            int farI = far(at(mean, I), by.between(I, knot, years));
            if (farI > reach) return 0;
            if (strength != NONE && far(at(mean, S), by.between(S, knot, years)) > strength) return 0;
            return 1 + 2 * reach - farD - farI;
        }

        /** Leaves the YEARS from one to another one alone. */
        void cut(int least, int greatest) {
            for (int year = 0; year <= LAST_YEAR; year++) {
                if (!within(year, least, greatest)) put(weight, year, 0);
            }
            collect();
        }

        private void collect() {
            pieces = 0;
            all = 0;
            boolean isOpen = false;
            for (int year = 0; year <= LAST_YEAR; year++) {
                int w = at(weight, year);
                if (w > 0) {
                    if (!isOpen) {
                        put(first, pieces, year);
                        put(sum, pieces, 0);
                        pieces++;
                    }
                    put(last, pieces - 1, year);
                    put(sum, pieces - 1, at(sum, pieces - 1) + w);
                    all += w;
                }
                isOpen = w > 0;
            }
        }

        /** Of a PIECE what 0 its first YEAR, 1 its last one, 2 its parts of a thousand. */
        int pieceAt(int p, int what) {
            if (what == 0) return at(first, p);
            return what == 1 ? at(last, p) : down(1000L * at(sum, p), all);
        }

        boolean meets(int from, int to) {
            for (int year = from; year <= to && year <= LAST_YEAR; year++) {
                if (at(weight, year) > 0) return true;
            }
            return false;
        }

        /** The middle of the first PIECE of the most WEIGHT. */
        int middleOfHeaviest() {
            int heaviest = 0;
            for (int p = 1; p < pieces; p++) {
                if (at(sum, p) > at(sum, heaviest)) heaviest = p;
            }
            return down(at(first, heaviest) + at(last, heaviest), 2);
        }

        /** All PIECES, three numbers each. */
        int[] rows() {
            int[] rows = new int[3 * Math.max(pieces, 0)];
            for (int k = 0; k < rows.length; k++) put(rows, k, pieceAt(k / 3, k % 3));
            return rows;
        }

        boolean isLike(int[] rows) {
            if (rows == null || rows.length != 3 * pieces) return false;
            for (int k = 0; k < rows.length; k++) {
                if (at(rows, k) != pieceAt(k / 3, k % 3)) return false;
            }
            return true;
        }
    }

    /** ON THE SITE: of each HEARTH the YEARS of its DATE from its least one to its greatest one. */
    private static final class Site {
        /** No run needs more: each round but the last one takes a YEAR away. */
        private static final int ROUNDS = 1000000;

        /** By YEARS which HEARTHS have it in their DATE, as bits. */
        private final int[] dates = new int[LAST_YEAR + 1];
        private final int[] low = new int[HEARTHS];
        private final int[] high = new int[HEARTHS];
        private int filled;

        void clear() {
            Arrays.fill(dates, 0);
            Arrays.fill(low, LAST_YEAR + 1);
            Arrays.fill(high, NONE);
            filled = 0;
        }

        /** The DATE of a HEARTH, and the first YEAR that its coin leaves. */
        void add(int hearth, int[] weight, int coin) {
            if (!within(hearth, 0, HEARTHS - 1)) return;
            for (int year = 0; year <= LAST_YEAR; year++) {
                if (at(weight, year) > 0) {
                    put(dates, year, at(dates, year) | 1 << hearth);
                    filled |= 1 << hearth;
                }
            }
            put(low, hearth, 0);
            put(high, hearth, LAST_YEAR);
            narrow(hearth, coin, LAST_YEAR);
        }

        /** Whether the DATE had YEARS before any went. */
        boolean hadYears(int hearth) {
            return within(hearth, 0, HEARTHS - 1) && (filled >> hearth & 1) == 1;
        }

        boolean hasYears(int hearth) {
            return at(low, hearth) <= at(high, hearth);
        }

        int least(int hearth) {
            return at(low, hearth);
        }

        int greatest(int hearth) {
            return at(high, hearth);
        }

        void settle(Told orders) {
            if (orders == null) return;
            boolean hasChanged = true;
            for (int round = 0; round < ROUNDS && hasChanged; round++) {
                hasChanged = false;
                for (int t = 0; t < orders.size; t++) {
                    if (apply(at(orders.a, t), at(orders.b, t))) hasChanged = true;
                }
            }
        }

        private boolean apply(int earlier, int later) {
            boolean hasChanged = false;
            if (hasYears(earlier)) hasChanged = narrow(later, least(earlier) + 1, LAST_YEAR);
            if (hasYears(later) && narrow(earlier, 0, greatest(later) - 1)) hasChanged = true;
            return hasChanged;
        }

        /** Takes the YEARS outside away; true if there were some. */
        private boolean narrow(int hearth, int from, int to) {
            if (!hasYears(hearth)) return false;
            int bit = 1 << hearth;
            int least = Math.max(from, least(hearth));
            int greatest = Math.min(to, greatest(hearth));
            while (least <= greatest && (at(dates, least) & bit) == 0) least++;
            while (greatest >= least && (at(dates, greatest) & bit) == 0) greatest--;
            boolean hasChanged = least != least(hearth) || greatest != greatest(hearth);
            put(low, hearth, least);
            put(high, hearth, greatest);
            return hasChanged;
        }
    }

    /** TO CHOOSE: an EDITION's own HEARTHS, behind them those that may be dated, and the best set of these. */
    private static final class Choice {
        private static final int MOST = 10;
        private static final int ROWS = HEARTHS + MOST;

        private int need;
        private int own;
        private int size;
        private final int[] d = new int[ROWS];
        private final int[] i = new int[ROWS];
        private final int[] cone = new int[ROWS];
        private final int[] cost = new int[ROWS];
        private final int[] bit = new int[ROWS];
        private final int[] weight = new int[ROWS * KNOTS];
        /** At each KNOT of the own ones: how many have a WEIGHT; HALF, NONE if it isn't TOLD. */
        private final int[] many = new int[KNOTS];
        private final int[] half = new int[KNOTS];
        /** There too: all WEIGHTS, and the sums of WEIGHT times D and I. */
        private final long[] all = new long[KNOTS];
        private final long[] sumD = new long[KNOTS];
        private final long[] sumI = new long[KNOTS];
        int gain;
        int bits;

        void open(Edition of) {
            own = 0;
            size = 0;
            if (of == null) return;
            need = of.need;
            for (int m = 0; m < of.size; m++) {
                keep(at(of.d, m), at(of.i, m), at(of.cone, m));
                for (int knot = 0; knot < KNOTS; knot++) putWeight(m, knot, of.weightAt(m, knot * STEP));
            }
            own = size;
            for (int knot = 0; knot < KNOTS; knot++) {
                put(half, knot, of.curve.isTold(knot) ? of.curve.cellAt(HALF, knot) : NONE);
                sumOwn(knot);
            }
        }

        private void sumOwn(int knot) {
            int some = 0;
            long weights = 0;
            long ofD = 0;
            long ofI = 0;
            for (int m = 0; m < own; m++) {
                long itsWeight = weightAt(m, knot);
                if (itsWeight > 0) some++;
                weights += itsWeight;
                ofD += itsWeight * at(d, m);
                ofI += itsWeight * at(i, m);
            }
            put(many, knot, some);
            put(all, knot, weights);
            put(sumD, knot, ofD);
            put(sumI, knot, ofI);
        }

        boolean isFull() {
            return size - own >= MOST;
        }

        /** One that may be dated, and the YEAR that it is awaited at. */
        void add(int hearth, int itsCost, int[] mean, int year, int window) {
            if (isFull() || !within(hearth, 0, HEARTHS - 1)) return;
            int from = Math.max(year - 20, 0);
            int to = Math.min(year + 20, LAST_YEAR);
            put(cost, size, itsCost);
            put(bit, size, 1 << hearth);
            for (int knot = 0; knot < KNOTS; knot++) {
                putWeight(size, knot, weigh(knot * STEP, window, at(mean, CONE), from, to));
            }
            keep(at(mean, D), at(mean, I), at(mean, CONE));
        }

        private void keep(int itsD, int itsI, int itsCone) {
            put(d, size, itsD);
            put(i, size, itsI);
            put(cone, size, itsCone);
            size++;
        }

        void findBest(int sum) {
            gain = 0;
            bits = 0;
            for (int p = own; p < size; p++) {
                attempt(p, NONE, NONE, sum);
                for (int q = p + 1; q < size; q++) {
                    attempt(p, q, NONE, sum);
                    for (int r = q + 1; r < size; r++) attempt(p, q, r, sum);
                }
            }
        }

        /** A set of up to three; NONE stands for nobody, whose numbers are all 0. */
        private void attempt(int p, int q, int r, int sum) {
            if (at(cost, p) + at(cost, q) + at(cost, r) > sum) return;
            int itsGain = 0;
            for (int knot = 0; knot < KNOTS; knot++) itsGain += gainAt(knot, p, q, r);
            int itsBits = at(bit, p) | at(bit, q) | at(bit, r);
            if (itsGain > gain || itsGain == gain && itsBits < bits) {
                gain = itsGain;
                bits = itsBits;
            }
        }

        private int gainAt(int knot, int p, int q, int r) {
            long ofP = weightAt(p, knot);
            long ofQ = weightAt(q, knot);
            long ofR = weightAt(r, knot);
            if (ofP + ofQ + ofR == 0) return 0;
            if (at(half, knot) == NONE) {
                int more = (ofP > 0 ? 1 : 0) + (ofQ > 0 ? 1 : 0) + (ofR > 0 ? 1 : 0);
                return at(many, knot) + more >= need ? 100 : 0;
            }
            long together = at(all, knot) + ofP + ofQ + ofR;
            int toD = down(at(sumD, knot) + ofP * at(d, p) + ofQ * at(d, q) + ofR * at(d, r), together);
            int toI = down(at(sumI, knot) + ofP * at(i, p) + ofQ * at(i, q) + ofR * at(i, r), together);
            long reaches = reach(p, knot, toD, toI) + reach(q, knot, toD, toI) + reach(r, knot, toD, toI);
            for (int m = 0; m < own; m++) reaches += reach(m, knot, toD, toI);
            return at(half, knot) - down(reaches, together);
        }

        /** WEIGHT times (CONE and how far D or I is from these, together). */
        private long reach(int m, int knot, int toD, int toI) {
            int itsWeight = at(weight, m * KNOTS + knot);
            if (itsWeight == 0) return 0;
            int away = Math.max(far(at(d, m), toD), far(at(i, m), toI));
            return (long) itsWeight * (at(cone, m) + away);
        }

        private int weightAt(int m, int knot) {
            return at(weight, m * KNOTS + knot);
        }

        private void putWeight(int m, int knot, int v) {
            put(weight, m * KNOTS + knot, v);
        }
    }

    /** A REPORT: what its PIECES were when it was made. */
    private static final class Report {
        final int hearth;
        final int edition;
        final int made;
        /** Of each PIECE its first YEAR, its last one, its parts. */
        final int[] rows;

        Report(int hearth, int edition, int made, int[] rows) {
            this.hearth = hearth;
            this.edition = edition;
            this.made = made;
            this.rows = rows;
        }

        int pieces() {
            return rows == null ? 0 : rows.length / 3;
        }

        int firstYear() {
            return pieces() > 0 ? at(rows, 0) : NONE;
        }

        int lastYear() {
            return pieces() > 0 ? at(rows, rows.length - 2) : NONE;
        }
    }
}
