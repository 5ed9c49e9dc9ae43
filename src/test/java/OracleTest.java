import java.util.ArrayList;
import java.util.Arrays;
import java.util.List;
import java.util.NoSuchElementException;
import java.util.Random;
import java.util.TreeMap;
import java.util.TreeSet;

/**
 * Plays runs of calls made by chance (always the same ones) on NorthCurve and on a second, slow and
 * literal telling of the document below, and compares every answer.
 */
public final class OracleTest {
    private static final int NONE = -1;
    private static final int LOST = -2000000;

    public static void main(String[] args) {
        int runs = args.length > 0 ? Integer.parseInt(args[0]) : 400;
        int first = args.length > 1 ? Integer.parseInt(args[1]) : 1;
        for (int seed = first; seed < first + runs; seed++) {
            String wrong = new Run(seed).play();
            if (wrong != null) {
                System.out.println("seed " + seed + ": " + wrong);
                System.exit(1);
            }
        }
        System.out.println(runs + " runs agree; answers that are neither NONE nor LOST: " + Arrays.toString(Run.told));
        int[] seldom = Run.told;
        for (int k = 0; k < seldom.length; k++) {
            if (runs >= 100 && seldom[k] == 0) {
                System.out.println("call " + k + " never answered anything");
                System.exit(1);
            }
        }
    }

    // ------------------------------------------------------------------------------------------

    private static final class Run {
        static final int[] told = new int[33];
        final Random chance;
        final NorthCurve x = new NorthCurve();
        final Oracle o = new Oracle();
        final int style;
        final StringBuilder log = new StringBuilder();
        final List<String> texts = new ArrayList<>();

        Run(int seed) {
            chance = new Random(seed * 7919L);
            style = seed % 5;
        }

        int upTo(int n) {
            return chance.nextInt(n + 1);
        }

        int from(int a, int b) {
            return a + chance.nextInt(b - a + 1);
        }

        /** Mostly within, now and then just outside or far outside. */
        int about(int a, int b) {
            int k = chance.nextInt(60);
            if (k == 0) return a - 1;
            if (k == 1) return b + 1;
            if (k == 2) return chance.nextInt();
            if (k == 3) return chance.nextBoolean() ? Integer.MIN_VALUE : Integer.MAX_VALUE;
            if (k == 4) return a;
            if (k == 5) return b;
            return from(a, Math.max(a, b));
        }

        int hearth() {
            return about(0, Math.max(0, o.hearths.size() - 1));
        }

        int cubeOf(int h) {
            return about(0, o.isH(h) ? Math.max(0, o.hearths.get(h).cubes.size() - 1) : 11);
        }

        int memberOf(int e) {
            if (!o.isE(e) || chance.nextInt(5) == 0) return hearth();
            List<Oracle.Member> all = o.editions.get(e).members;
            return all.get(chance.nextInt(all.size())).hearth;
        }

        int ed() {
            return about(0, Math.max(0, o.editions.size() - 1));
        }

        int known() {
            return chance.nextInt(3) == 0 ? o.day : about(0, o.day);
        }

        int year() {
            return chance.nextInt(3) == 0 ? 25 * about(0, 60) : about(0, 1500);
        }

        int dir(int limit) {
            int k = chance.nextInt(20);
            if (k == 0) return about(-limit, limit);
            if (style == 0) return from(-limit, limit);
            if (style == 1) return from(-20, 20);
            if (style == 2) return 400 + from(-60, 60);
            return from(-150, 150);
        }

        String play() {
            int start = style > 2 ? from(2, 5) : from(2, 24);
            for (int h = 0; h < start; h++) {
                String wrong = compare("hearth", h % 6, 0, 0, 0, 0);
                if (wrong != null) return wrong;
            }
            for (int k = start; k < 512; k++) {
                String wrong = one(k);
                if (wrong != null) return wrong + "\nafter:\n" + log;
            }
            return null;
        }

        String one(int k) {
            int pick = chance.nextInt(100);
            boolean early = k < 260;
            if (early && pick < 45) return tellSome();
            if (pick < 12) return tellSome();
            if (pick < 15) return tellRules();
            return askSome();
        }

        String tellSome() {
            switch (chance.nextInt(16)) {
                case 0: return compare("zone", about(0, 5), about(-200, 200), about(-200, 200), 0, 0);
                case 1: return style > 2 && chance.nextInt(4) > 0 ? null : compare("hearth", about(0, 5), 0, 0, 0, 0);
                case 2: return compare("tilt", hearth(), dir(300), dir(300), 0, 0);
                case 3: return compare("cost", hearth(), about(0, 999), 0, 0, 0);
                case 4: case 5: return compare("twice", about(0, 3), about(0, 9), dir(900), dir(900), 0);
                case 6: case 7: case 8: case 9:
                    return compare("cube", hearth(), about(0, 3), dir(900), dir(900), style == 0 ? about(0, 999) : about(90, 110));
                case 10: case 11: case 12: {
                    int a = about(0, 1500);
                    int sort = about(0, 2);
                    return compare("witness", hearth(), sort, a, chance.nextInt(8) == 0 ? about(0, 1500) : Math.min(1500, Math.max(0, a)) + upTo(200), 0);
                }
                case 13: return compare("order", hearth(), hearth(), 0, 0, 0);
                case 14: return compare("day", chance.nextInt(20) == 0 ? about(0, 1000) : upTo(2), 0, 0, 0, 0);
                default: return tellRules();
            }
        }

        String tellRules() {
            String text = chance.nextInt(5) == 0 && !texts.isEmpty() ? texts.get(chance.nextInt(texts.size())) : new Author(chance).text();
            texts.add(text);
            String wrong = compare("end", 0, 0, 0, 0, 0);
            int padded = (text.length() + 19) / 20 * 20;
            for (int at = 0; at < padded && wrong == null; at += 20) {
                int[] n = new int[5];
                for (int b = 0; b < 20; b++) {
                    int c = at + b < text.length() ? text.charAt(at + b) : chance.nextInt(256);
                    n[b / 4] |= c << 24 - b % 4 * 8;
                }
                wrong = compare("feed", n[0], n[1], n[2], n[3], n[4]);
            }
            if (wrong == null && chance.nextInt(20) != 0) wrong = compare("end", text.length(), 0, 0, 0, 0);
            if (wrong == null && chance.nextInt(20) == 0) wrong = compare("end", about(0, 400), 0, 0, 0, 0);
            if (wrong == null) wrong = compare("rules", 0, 0, 0, 0, 0);
            if (wrong == null) wrong = compare("place", 0, 0, 0, 0, 0);
            return wrong;
        }

        String askSome() {
            switch (chance.nextInt(26)) {
                case 0: return compare("bias", about(0, 3), about(0, 1), known(), 0, 0);
                case 1: {
                    int h = hearth();
                    return compare("dropped", h, cubeOf(h), known(), 0, 0);
                }
                case 2: {
                    int h = hearth();
                    return compare("right", h, cubeOf(h), about(0, 2), known(), 0);
                }
                case 3: case 4: return compare("mean", hearth(), about(0, 4), known(), 0, 0);
                case 5: return compare("span", hearth(), about(0, 1), known(), 0, 0);
                case 6: return compare("dated", hearth(), known(), 0, 0, 0);
                case 7: return o.editions.size() < 3 || chance.nextInt(4) == 0 ? compare("edition", 0, 0, 0, 0, 0) : null;
                case 8: case 9: return compare("curve", ed(), year(), about(0, 3), 0, 0);
                case 10: case 11: {
                    int e = ed();
                    return compare("without", e, memberOf(e), year(), about(0, 3), 0);
                }
                case 12: return compare("uses", ed(), hearth(), 0, 0, 0);
                case 13: return compare("changed", ed(), ed(), 0, 0, 0);
                case 14: return compare("date", hearth(), ed(), upTo(1), 0, 0);
                case 15: case 16: case 17: return compare("piece", hearth(), ed(), upTo(1), chance.nextInt(3) == 0 ? about(0, 9) : 0, about(0, 2));
                case 18: return compare("quarrels", ed(), 0, 0, 0, 0);
                case 19: return compare("test", ed(), about(0, 1), 0, 0, 0);
                case 20: return compare("choose", ed(), chance.nextBoolean() ? about(0, 9999) : about(0, 2000), about(0, 1), 0, 0);
                case 21: return compare("report", hearth(), ed(), 0, 0, 0);
                case 22: case 23: return compare("reportOf", about(0, Math.max(0, o.reports.size() - 1)), about(0, 6), 0, 0, 0);
                case 24: return compare("of", hearth(), about(0, 4), 0, 0, 0);
                default: return compare("count", about(0, 9), 0, 0, 0, 0);
            }
        }

        static final long THROWS = Long.MIN_VALUE;

        String compare(String call, int a, int b, int c, int d, int e) {
            String line = call + "(" + a + ", " + b + ", " + c + ", " + d + ", " + e + ")";
            long due = answer(call, a, b, c, d, e, false);
            long got = answer(call, a, b, c, d, e, true);
            log.append(line).append(" = ").append(due).append('\n');
            if (due != NONE && due != LOST && due != THROWS) told[numberOf(call)]++;
            return due == got ? null : line + " answered " + got + ", due is " + due;
        }

        static final List<String> CALLS = Arrays.asList("zone", "hearth", "tilt", "cost", "twice", "bias", "cube", "witness",
                "order", "feed", "end", "rules", "place", "day", "dropped", "right", "mean", "span", "dated", "edition",
                "curve", "without", "uses", "changed", "date", "piece", "quarrels", "test", "choose", "report", "reportOf",
                "of", "count");

        static int numberOf(String call) {
            return CALLS.indexOf(call);
        }

        static long bit(boolean v) {
            return v ? 1 : 0;
        }

        long answer(String call, int a, int b, int c, int d, int e, boolean real) {
            switch (call) {
                case "zone": return bit(real ? x.zone(a, b, c) : o.zone(a, b, c));
                case "hearth": return real ? x.hearth(a) : o.hearth(a);
                case "tilt": return bit(real ? x.tilt(a, b, c) : o.tilt(a, b, c));
                case "cost": return bit(real ? x.cost(a, b) : o.cost(a, b));
                case "twice": return bit(real ? x.twice(a, b, c, d) : o.twice(a, b, c, d));
                case "bias": return real ? x.bias(a, b, c) : o.bias(a, b, c);
                case "cube": return real ? x.cube(a, b, c, d, e) : o.cube(a, b, c, d, e);
                case "witness": return bit(real ? x.witness(a, b, c, d) : o.witness(a, b, c, d));
                case "order": return bit(real ? x.order(a, b) : o.order(a, b));
                case "feed": return real ? x.feed(a, b, c, d, e) : o.feed(a, b, c, d, e);
                case "end": return real ? x.end(a) : o.end(a);
                case "rules": return real ? x.rules() : o.rules();
                case "place": return real ? x.place() : o.place;
                case "day": return real ? x.day(a) : o.day(a);
                case "dropped": return real ? x.dropped(a, b, c) : o.dropped(a, b, c);
                case "right": return real ? x.right(a, b, c, d) : o.right(a, b, c, d);
                case "mean": return real ? x.mean(a, b, c) : o.mean(a, b, c);
                case "span": return real ? x.span(a, b, c) : o.span(a, b, c);
                case "dated": return real ? x.dated(a, b) : o.dated(a, b);
                case "edition": return real ? x.edition() : o.edition();
                case "curve": return real ? x.curve(a, b, c) : o.curve(a, b, c);
                case "without": return real ? x.without(a, b, c, d) : o.without(a, b, c, d);
                case "uses": return real ? x.uses(a, b) : o.uses(a, b);
                case "changed": return real ? x.changed(a, b) : o.changed(a, b);
                case "date": return real ? x.date(a, b, c == 1) : o.date(a, b, c == 1);
                case "piece":
                    if (!real) return o.piece(a, b, c == 1, d, e);
                    try {
                        return x.piece(a, b, c == 1, d, e);
                    } catch (NoSuchElementException none) {
                        return THROWS;
                    }
                case "quarrels": return real ? x.quarrels(a) : o.quarrels(a);
                case "test": return real ? x.test(a, b) : o.test(a, b);
                case "choose": return real ? x.choose(a, b, c) : o.choose(a, b, c);
                case "report": return real ? x.report(a, b) : o.report(a, b);
                case "reportOf": return real ? x.reportOf(a, b) : o.reportOf(a, b);
                case "of": return real ? x.of(a, b) : o.of(a, b);
                default: return real ? x.count(a) : o.count(a);
            }
        }
    }

    /** Writes texts of RULES: most are right, some have a FAULT. */
    private static final class Author {
        final Random chance;
        final StringBuilder out = new StringBuilder();

        Author(Random chance) {
            this.chance = chance;
        }

        String text() {
            int many = chance.nextInt(12) == 0 ? 18 + chance.nextInt(5) : chance.nextInt(6);
            for (int k = 0; k < many; k++) {
                int before = out.length();
                statement(many > 12);
                if (out.length() > 390) out.setLength(before);
            }
            String text = out.toString();
            if (chance.nextInt(3) == 0) text = spoil(text);
            return text.length() > 400 ? text.substring(0, 400) : text;
        }

        String spoil(String text) {
            int at = text.isEmpty() ? 0 : chance.nextInt(text.length() + 1);
            String[] bits = {";", "if", "or", "and ", "not ", "x", "#", "[", "]", "(", ")", "<", "<<", "12345", "0", " ", "\n", "\t", "A",
                "" + (char) 233, "+", "*", "-", "drop if ", "cubes", "d", "keep 0;", "keep 13;", "need 25;", "window 0;", "hearth", "" + (char) 0};
            switch (chance.nextInt(3)) {
                case 0: return text.substring(0, at);
                case 1: return at < text.length() ? text.substring(0, at) + text.substring(at + 1) : text;
                default: return text.substring(0, at) + bits[chance.nextInt(bits.length)] + text.substring(at);
            }
        }

        void blank() {
            int k = chance.nextInt(12);
            if (k == 0) out.append("  ");
            else if (k == 1) out.append('\n');
        }

        void word(String w) {
            if (out.length() > 0 && Character.isLetter(out.charAt(out.length() - 1))) out.append(' ');
            out.append(w);
            blank();
        }

        void number(int n) {
            if (out.length() > 0 && Character.isDigit(out.charAt(out.length() - 1))) out.append(' ');
            if (chance.nextInt(10) == 0 && n < 100) out.append("00");
            out.append(n);
            blank();
        }

        void statement(boolean small) {
            switch (small ? 3 + chance.nextInt(6) : chance.nextInt(11)) {
                case 0: case 1: word("drop"); word("if"); condition(true, 0); break;
                case 2: word("doubt"); number(chance.nextInt(60)); word("if"); condition(false, 0); break;
                case 3: word("keep"); number(chance.nextInt(20) == 0 ? chance.nextInt(15) : 1 + chance.nextInt(6)); break;
                case 4: word("limit"); number(chance.nextInt(3) == 0 ? chance.nextInt(10000) : chance.nextInt(100)); break;
                case 5: word("base"); number(chance.nextInt(6) == 0 ? chance.nextInt(10000) : chance.nextInt(80)); break;
                case 6: word("window"); number(chance.nextInt(4) == 0 ? chance.nextInt(10000) : 1 + chance.nextInt(400)); break;
                case 7: word("need"); number(chance.nextInt(20) == 0 ? chance.nextInt(27) : 1 + chance.nextInt(3)); break;
                case 8: word("strength"); number(chance.nextInt(40)); break;
                case 9: word("use"); word("if"); condition(false, 0); break;
                default: word("skip"); word("if"); condition(false, 0);
            }
            out.append(';');
            blank();
        }

        void condition(boolean drop, int depth) {
            part(drop, depth);
            while (chance.nextInt(4) == 0) {
                word(chance.nextBoolean() ? "or" : "and");
                part(drop, depth);
            }
        }

        void part(boolean drop, int depth) {
            while (chance.nextInt(6) == 0) word("not");
            if (chance.nextInt(5) == 0 && depth < 4 || depth > 3 && chance.nextInt(20) == 0) {
                out.append('[');
                condition(drop, depth + 1);
                out.append(']');
                blank();
                return;
            }
            sum(drop, depth);
            out.append("<>=".charAt(chance.nextInt(3)));
            blank();
            sum(drop, depth);
        }

        void sum(boolean drop, int depth) {
            factor(drop, depth);
            while (chance.nextInt(4) == 0) {
                out.append("+-*".charAt(chance.nextInt(3)));
                blank();
                factor(drop, depth);
            }
        }

        void factor(boolean drop, int depth) {
            String[] names = drop ? Oracle.CUBE_NAMES : Oracle.HEARTH_NAMES;
            int k = chance.nextInt(10);
            if (k < 4) number(chance.nextInt(3) == 0 ? chance.nextInt(10000) : chance.nextInt(120));
            else if (k < 9 || depth > 3) word(names[chance.nextInt(names.length)]);
            else {
                out.append('(');
                sum(drop, depth + 1);
                out.append(')');
                blank();
            }
        }
    }

    // ---- the second telling -------------------------------------------------------------------

    private static final class Oracle {
        static final String[] CUBE_NAMES = {"d", "i", "s", "machine", "cube", "hearth", "zone"};
        static final String[] HEARTH_NAMES = {"hearth", "zone", "cubes", "from", "to", "length", "wood", "coin", "writ"};

        static final class Hearth {
            int zone;
            int cost;
            /** day, machine, d, i, s */
            final List<int[]> cubes = new ArrayList<>();
        }

        static final class Mean {
            int d, i, s, cone, left;
        }

        static final class Member {
            int hearth, d, i, s, cone, from, to;
        }

        static final class Made {
            final List<Member> members = new ArrayList<>();
            int window, need, strength;

            Made less(int hearth) {
                Made m = copy();
                m.members.removeIf(one -> one.hearth == hearth);
                return m;
            }

            Made copy() {
                Made m = new Made();
                m.members.addAll(members);
                m.window = window;
                m.need = need;
                m.strength = strength;
                return m;
            }

            Member of(int hearth) {
                for (Member m : members) if (m.hearth == hearth) return m;
                return null;
            }
        }

        static final class Account {
            int hearth, edition, day;
            List<int[]> pieces;
        }

        int day;
        int place = NONE;
        final int[][] turn = new int[6][2];
        final List<Hearth> hearths = new ArrayList<>();
        final List<int[]> doubles = new ArrayList<>();
        final List<int[]> tilts = new ArrayList<>();
        final List<int[]> witnesses = new ArrayList<>();
        final List<int[]> orders = new ArrayList<>();
        final List<Integer> lawDays = new ArrayList<>();
        final List<List<List<String>>> laws = new ArrayList<>();
        final List<Made> editions = new ArrayList<>();
        final List<Account> reports = new ArrayList<>();
        StringBuilder tape = new StringBuilder();

        static boolean in(int v, int a, int b) {
            return a <= v && v <= b;
        }

        boolean isH(int h) {
            return in(h, 0, hearths.size() - 1);
        }

        boolean isE(int e) {
            return in(e, 0, editions.size() - 1);
        }

        boolean zone(int z, int d, int i) {
            if (!in(z, 0, 5) || !in(d, -200, 200) || !in(i, -200, 200)) return false;
            turn[z] = new int[] {d, i};
            return true;
        }

        int hearth(int z) {
            if (!in(z, 0, 5) || hearths.size() == 24) return NONE;
            Hearth h = new Hearth();
            h.zone = z;
            hearths.add(h);
            return hearths.size() - 1;
        }

        boolean tilt(int h, int d, int i) {
            if (!isH(h) || !in(d, -300, 300) || !in(i, -300, 300) || tilts.size() == 100) return false;
            return tilts.add(new int[] {day, h, d, i});
        }

        boolean cost(int h, int v) {
            if (!isH(h) || !in(v, 0, 999)) return false;
            hearths.get(h).cost = v;
            return true;
        }

        boolean twice(int m, int p, int d, int i) {
            if (!in(m, 0, 3) || !in(p, 0, 9) || !in(d, -900, 900) || !in(i, -900, 900) || doubles.size() == 200) return false;
            return doubles.add(new int[] {day, m, p, d, i});
        }

        int[] doubleOf(int m, int p, int known) {
            int[] found = null;
            for (int[] t : doubles) if (t[0] <= known && t[1] == m && t[2] == p) found = t;
            return found;
        }

        int bias(int m, int what, int known) {
            if (!in(m, 0, 3) || !in(what, 0, 1) || !in(known, 0, day)) return LOST;
            int sum = 0;
            int many = 0;
            for (int p = 0; p < 10; p++) {
                int[] own = doubleOf(m, p, known);
                int[] first = doubleOf(0, p, known);
                if (own == null || first == null) continue;
                sum += own[3 + what] - first[3 + what];
                many++;
            }
            return many == 0 ? 0 : Math.floorDiv(sum, many);
        }

        int cube(int h, int m, int d, int i, int s) {
            if (!isH(h) || !in(m, 0, 3) || !in(d, -900, 900) || !in(i, -900, 900) || !in(s, 0, 999)) return NONE;
            List<int[]> cubes = hearths.get(h).cubes;
            if (cubes.size() == 12) return NONE;
            cubes.add(new int[] {day, m, d, i, s});
            return cubes.size() - 1;
        }

        boolean witness(int h, int sort, int from, int to) {
            if (!isH(h) || !in(sort, 0, 2) || !in(from, 0, 1500) || !in(to, 0, 1500) || from > to || witnesses.size() == 150) return false;
            return witnesses.add(new int[] {day, h, sort, from, to});
        }

        boolean leads(int a, int b) {
            if (a == b) return true;
            for (int[] t : orders) if (t[0] == a && leads(t[1], b)) return true;
            return false;
        }

        boolean order(int a, int b) {
            if (!isH(a) || !isH(b) || orders.size() == 60) return false;
            for (int[] t : orders) if (t[0] == a && t[1] == b) return false;
            if (leads(b, a)) return false;
            return orders.add(new int[] {a, b});
        }

        int feed(int... n) {
            if (tape.length() > 380) return NONE;
            for (int v : n) tape.append((char) (v >>> 24)).append((char) (v >>> 16 & 255)).append((char) (v >>> 8 & 255)).append((char) (v & 255));
            return tape.length();
        }

        int end(int n) {
            if (n < 0 || n > tape.length()) return NONE;
            tape.setLength(n);
            return n;
        }

        int day(int n) {
            if (!in(n, 0, 1000) || day + n > 100000) return NONE;
            day += n;
            return day;
        }

        // -- texts: a machine with states that goes over the tokens

        static final String[] STATEMENTS = {"drop", "limit", "keep", "base", "doubt", "use", "skip", "window", "need", "strength"};

        int rules() {
            if (laws.size() == 20) return NONE;
            String text = tape.toString();
            tape = new StringBuilder();
            place = NONE;
            List<String> tokens = new ArrayList<>();
            List<Integer> places = new ArrayList<>();
            for (int k = 0; k < text.length();) {
                char c = text.charAt(k);
                if (c == ' ' || c == '\n') {
                    k++;
                    continue;
                }
                int e = k + 1;
                if (low(c)) while (e < text.length() && low(text.charAt(e))) e++;
                else if (fig(c)) while (e < text.length() && fig(text.charAt(e))) e++;
                tokens.add(text.substring(k, e));
                places.add(k);
                k = e;
            }
            tokens.add("");
            places.add(text.length());
            List<List<String>> law = new ArrayList<>();
            int[] fault = faultOf(tokens, law);
            if (fault != null) {
                place = places.get(fault[0]);
                return -1 - fault[1];
            }
            laws.add(law);
            lawDays.add(day);
            return law.size();
        }

        static boolean low(char c) {
            return c >= 'a' && c <= 'z';
        }

        static boolean fig(char c) {
            return c >= '0' && c <= '9';
        }

        /** Number of the token and kind of the first FAULT, or null; the STATEMENTS go into law. */
        static int[] faultOf(List<String> tokens, List<List<String>> law) {
            // states: S a statement may start, N a number is due, F "if" is due, E ';' is due,
            // P a PART is due, A a FACTOR is due, O behind a FACTOR left of a SIGN, R behind one right of it, B behind a PART
            char state = 'S';
            String word = "";
            List<String> now = null;
            String open = "";
            for (int t = 0; t < tokens.size(); t++) {
                String k = tokens.get(t);
                boolean end = k.isEmpty();
                boolean isWord = !end && low(k.charAt(0));
                boolean isFig = !end && fig(k.charAt(0));
                boolean isName = Arrays.asList(word.equals("drop") ? CUBE_NAMES : HEARTH_NAMES).contains(k);
                if (state == 'S') {
                    if (end) return null;
                    if (!Arrays.asList(STATEMENTS).contains(k)) return new int[] {t, 1};
                    if (law.size() == 20) return new int[] {t, 4};
                    word = k;
                    now = new ArrayList<>();
                    law.add(now);
                    state = k.equals("drop") || k.equals("use") || k.equals("skip") ? 'F' : 'N';
                } else if (state == 'N') {
                    if (!isFig || k.length() > 4) return new int[] {t, 1};
                    int n = Integer.parseInt(k);
                    if (n == 0 && (word.equals("keep") || word.equals("window") || word.equals("need"))) return new int[] {t, 2};
                    if (n > 12 && word.equals("keep") || n > 24 && word.equals("need")) return new int[] {t, 2};
                    state = word.equals("doubt") ? 'F' : 'E';
                } else if (state == 'F') {
                    if (!k.equals("if")) return new int[] {t, 1};
                    state = 'P';
                } else if (state == 'E') {
                    if (!k.equals(";")) return new int[] {t, 1};
                    state = 'S';
                } else if (state == 'P' && k.equals("not")) {
                    state = 'P';
                } else if (state == 'P' && k.equals("[")) {
                    if (open.length() == 4) return new int[] {t, 4};
                    open += "[";
                } else if (state == 'P' || state == 'A' || state == 'a') {
                    boolean left = state != 'a';
                    if (isFig) {
                        if (k.length() > 4) return new int[] {t, 1};
                        state = left ? 'O' : 'R';
                    } else if (isWord) {
                        if (!isName) return new int[] {t, 3};
                        state = left ? 'O' : 'R';
                    } else if (k.equals("(")) {
                        if (open.length() == 4) return new int[] {t, 4};
                        open += "(";
                        state = left ? 'A' : 'a';
                    } else {
                        return new int[] {t, 1};
                    }
                } else {
                    boolean inRound = open.endsWith("(");
                    if (state != 'B' && (k.equals("+") || k.equals("-") || k.equals("*"))) {
                        state = state == 'O' ? 'A' : 'a';
                    } else if (state != 'B' && inRound && k.equals(")")) {
                        open = open.substring(0, open.length() - 1);
                    } else if (state == 'O' && !inRound && (k.equals("<") || k.equals(">") || k.equals("="))) {
                        state = 'a';
                    } else if (state != 'O' && !inRound && (k.equals("and") || k.equals("or"))) {
                        state = 'P';
                    } else if (state != 'O' && open.endsWith("[") && k.equals("]")) {
                        open = open.substring(0, open.length() - 1);
                        state = 'B';
                    } else if (state != 'O' && open.isEmpty() && k.equals(";")) {
                        state = 'S';
                    } else {
                        return new int[] {t, 1};
                    }
                }
                now.add(k);
            }
            throw new IllegalStateException("no end");
        }

        List<List<String>> lawOn(int known) {
            List<List<String>> law = new ArrayList<>();
            for (int k = 0; k < laws.size(); k++) if (lawDays.get(k) <= known) law = laws.get(k);
            return law;
        }

        static int setting(List<List<String>> law, String word, int without) {
            for (List<String> s : law) if (s.get(0).equals(word)) without = Integer.parseInt(s.get(1));
            return without;
        }

        /** Works a COND out along its tokens. */
        static final class Sums {
            final List<String> t;
            int at;
            final String[] names;
            final long[] values;

            Sums(List<String> t, int at, String[] names, long[] values) {
                this.t = t;
                this.at = at;
                this.names = names;
                this.values = values;
            }

            boolean is(String k) {
                return t.get(at).equals(k);
            }

            boolean cond() {
                boolean v = both();
                while (is("or")) {
                    at++;
                    v |= both();
                }
                return v;
            }

            boolean both() {
                boolean v = part();
                while (is("and")) {
                    at++;
                    v &= part();
                }
                return v;
            }

            boolean part() {
                if (is("not")) {
                    at++;
                    return !part();
                }
                if (is("[")) {
                    at++;
                    boolean v = cond();
                    at++;
                    return v;
                }
                long a = sum();
                String sign = t.get(at++);
                long b = sum();
                return sign.equals("<") ? a < b : sign.equals(">") ? a > b : a == b;
            }

            static long cap(long v) {
                return Math.max(-1000000000L, Math.min(1000000000L, v));
            }

            long sum() {
                long v = product();
                while (is("+") || is("-")) {
                    boolean plus = t.get(at++).equals("+");
                    long b = product();
                    v = cap(plus ? v + b : v - b);
                }
                return v;
            }

            long product() {
                long v = factor();
                while (is("*")) {
                    at++;
                    v = cap(v * factor());
                }
                return v;
            }

            long factor() {
                String k = t.get(at++);
                if (k.equals("(")) {
                    long v = sum();
                    at++;
                    return v;
                }
                if (fig(k.charAt(0))) return Integer.parseInt(k);
                return values[Arrays.asList(names).indexOf(k)];
            }
        }

        // -- as known on a day

        int[] right(int h, int c, int known) {
            int[] cube = hearths.get(h).cubes.get(c);
            int d = cube[2] - bias(cube[1], 0, known);
            int i = cube[3] - bias(cube[1], 1, known);
            int[] tilt = {0, 0, 0, 0};
            for (int[] t : tilts) if (t[0] <= known && t[1] == h) tilt = t;
            return new int[] {d + tilt[2], i + tilt[3], cube[4]};
        }

        boolean isC(int h, int c, int known) {
            return isH(h) && in(known, 0, day) && in(c, 0, hearths.get(h).cubes.size() - 1) && hearths.get(h).cubes.get(c)[0] <= known;
        }

        int right(int h, int c, int what, int known) {
            if (!isC(h, c, known) || !in(what, 0, 2)) return LOST;
            return right(h, c, known)[what];
        }

        static int[] middle(List<int[]> right, List<Integer> left) {
            int d = 0;
            int i = 0;
            for (int c : left) {
                d += right.get(c)[0];
                i += right.get(c)[1];
            }
            return new int[] {Math.floorDiv(d, left.size()), Math.floorDiv(i, left.size())};
        }

        static int away(int[] a, int[] b) {
            return Math.abs(a[0] - b[0]) + Math.abs(a[1] - b[1]);
        }

        int[] fates(int h, int known) {
            List<int[]> cubes = hearths.get(h).cubes;
            List<List<String>> law = lawOn(known);
            int[] fate = new int[12];
            List<int[]> right = new ArrayList<>();
            List<Integer> left = new ArrayList<>();
            for (int c = 0; c < cubes.size() && cubes.get(c)[0] <= known; c++) {
                int[] r = right(h, c, known);
                right.add(r);
                long[] values = {r[0], r[1], r[2], cubes.get(c)[1], c, h, hearths.get(h).zone};
                for (List<String> s : law) {
                    if (s.get(0).equals("drop") && new Sums(s, 2, CUBE_NAMES, values).cond()) fate[c] = 1;
                }
                if (fate[c] == 0) left.add(c);
            }
            while (left.size() > setting(law, "keep", 3)) {
                int[] middle = middle(right, left);
                Integer worst = left.get(0);
                for (Integer c : left) if (away(right.get(c), middle) > away(right.get(worst), middle)) worst = c;
                if (away(right.get(worst), middle) <= setting(law, "limit", 9999)) break;
                fate[worst] = 2;
                left.remove(worst);
            }
            return fate;
        }

        int dropped(int h, int c, int known) {
            return isC(h, c, known) ? fates(h, known)[c] : NONE;
        }

        int[] witnessOf(int h, int sort, int known) {
            int[] found = null;
            for (int[] w : witnesses) if (w[0] <= known && w[1] == h && w[2] == sort) found = w;
            return found;
        }

        int[] spanOf(int h, int known) {
            int from = 0;
            int to = 1500;
            for (int sort = 0; sort < 3; sort++) {
                int[] w = witnessOf(h, sort, known);
                if (w == null) continue;
                from = Math.max(from, w[3]);
                if (sort != 1) to = Math.min(to, w[4]);
            }
            return new int[] {from, to};
        }

        int span(int h, int what, int known) {
            if (!isH(h) || !in(what, 0, 1) || !in(known, 0, day)) return NONE;
            return spanOf(h, known)[what];
        }

        long[] hearthValues(int h, int left, int known) {
            int[] span = spanOf(h, known);
            long[] v = {h, hearths.get(h).zone, left, span[0], span[1], span[1] - span[0], 0, 0, 0};
            for (int sort = 0; sort < 3; sort++) if (witnessOf(h, sort, known) != null) v[6 + sort] = 1;
            return v;
        }

        Mean meanOf(int h, int known) {
            int[] fate = fates(h, known);
            List<int[]> right = new ArrayList<>();
            List<Integer> left = new ArrayList<>();
            List<int[]> cubes = hearths.get(h).cubes;
            for (int c = 0; c < cubes.size() && cubes.get(c)[0] <= known; c++) {
                right.add(right(h, c, known));
                if (fate[c] == 0) left.add(c);
            }
            if (left.isEmpty()) return null;
            Mean m = new Mean();
            int[] middle = middle(right, left);
            int s = 0;
            int far = 0;
            for (int c : left) {
                s += right.get(c)[2];
                far += away(right.get(c), middle);
            }
            int[] t = turn[hearths.get(h).zone];
            m.d = middle[0] + t[0];
            m.i = middle[1] + t[1];
            m.s = s / left.size();
            m.left = left.size();
            m.cone = far / left.size() + setting(lawOn(known), "base", 10);
            for (List<String> st : lawOn(known)) {
                if (st.get(0).equals("doubt") && new Sums(st, 3, HEARTH_NAMES, hearthValues(h, m.left, known)).cond()) m.cone += Integer.parseInt(st.get(1));
            }
            return m;
        }

        int mean(int h, int what, int known) {
            if (!isH(h) || !in(what, 0, 4) || !in(known, 0, day)) return LOST;
            Mean m = meanOf(h, known);
            if (m == null) return LOST;
            return new int[] {m.d, m.i, m.s, m.cone, m.left}[what];
        }

        int dated(int h, int known) {
            if (!isH(h) || !in(known, 0, day)) return NONE;
            int[] span = spanOf(h, known);
            if (span[0] > span[1]) return 2;
            Mean m = meanOf(h, known);
            if (m == null || witnessOf(h, 0, known) == null && witnessOf(h, 2, known) == null) return 0;
            int dated = 1;
            for (List<String> s : lawOn(known)) {
                boolean use = s.get(0).equals("use");
                if ((use || s.get(0).equals("skip")) && new Sums(s, 2, HEARTH_NAMES, hearthValues(h, m.left, known)).cond()) dated = use ? 1 : 0;
            }
            return dated;
        }

        // -- editions

        int edition() {
            if (editions.size() == 12) return NONE;
            Made e = new Made();
            List<List<String>> law = lawOn(day);
            e.window = setting(law, "window", 100);
            e.need = setting(law, "need", 1);
            e.strength = setting(law, "strength", -1);
            for (int h = 0; h < hearths.size(); h++) {
                if (dated(h, day) != 1) continue;
                Mean mean = meanOf(h, day);
                e.members.add(member(h, mean, spanOf(h, day)));
            }
            if (e.members.isEmpty()) return NONE;
            editions.add(e);
            return editions.size() - 1;
        }

        static Member member(int h, Mean mean, int[] span) {
            Member m = new Member();
            m.hearth = h;
            m.d = mean.d;
            m.i = mean.i;
            m.s = mean.s;
            m.cone = mean.cone;
            m.from = span[0];
            m.to = span[1];
            return m;
        }

        static long weight(Made e, Member m, int year) {
            int g = Math.max(0, Math.max(m.from - year, year - m.to));
            if (e.window - g <= 0) return 0;
            return (e.window - g) * 1000L / (10 + m.cone + (m.to - m.from) / 4);
        }

        /** D, I, S, HALF at a KNOT, or null. */
        static int[] knot(Made e, int year) {
            int many = 0;
            long all = 0;
            long d = 0;
            long i = 0;
            long s = 0;
            for (Member m : e.members) {
                long w = weight(e, m, year);
                if (w > 0) many++;
                all += w;
                d += w * m.d;
                i += w * m.i;
                s += w * m.s;
            }
            if (many < e.need) return null;
            int[] k = {(int) Math.floorDiv(d, all), (int) Math.floorDiv(i, all), (int) Math.floorDiv(s, all), 0};
            long half = 0;
            for (Member m : e.members) half += weight(e, m, year) * (m.cone + Math.max(Math.abs(m.d - k[0]), Math.abs(m.i - k[1])));
            k[3] = (int) (half / all);
            return k;
        }

        static int[][] knots(Made e) {
            int[][] all = new int[61][];
            for (int k = 0; k < 61; k++) all[k] = knot(e, 25 * k);
            return all;
        }

        static int[] at(int[][] knots, int year) {
            int[] a = knots[year / 25];
            int r = year % 25;
            if (a == null || r == 0) return a;
            int[] b = knots[year / 25 + 1];
            if (b == null) return null;
            int[] v = new int[4];
            for (int k = 0; k < 4; k++) v[k] = Math.floorDiv(a[k] * (25 - r) + b[k] * r, 25);
            return v;
        }

        int curve(int e, int year, int what) {
            if (!isE(e) || !in(year, 0, 1500) || !in(what, 0, 3)) return LOST;
            int[] v = at(knots(editions.get(e)), year);
            return v == null ? LOST : v[what];
        }

        int without(int e, int h, int year, int what) {
            if (!isE(e) || !in(year, 0, 1500) || !in(what, 0, 3) || editions.get(e).of(h) == null) return LOST;
            int[] v = at(knots(editions.get(e).less(h)), year);
            return v == null ? LOST : v[what];
        }

        int uses(int e, int h) {
            if (!isE(e) || !isH(h)) return NONE;
            return editions.get(e).of(h) == null ? 0 : 1;
        }

        int changed(int e, int f) {
            if (!isE(e) || !isE(f)) return NONE;
            int[][] a = knots(editions.get(e));
            int[][] b = knots(editions.get(f));
            int many = 0;
            for (int k = 0; k < 61; k++) if (!Arrays.equals(a[k], b[k])) many++;
            return many;
        }

        // -- dates

        /** YEARS with their WEIGHTS, or null without a MEAN. */
        TreeMap<Integer, Long> dateOf(int h, int e) {
            Mean m = meanOf(h, day);
            if (m == null) return null;
            Made made = editions.get(e);
            int[][] knots = knots(made.less(h));
            TreeMap<Integer, Long> years = new TreeMap<>();
            for (int y = 0; y <= 1500; y++) {
                int[] v = at(knots, y);
                if (v == null) continue;
                int d = Math.abs(v[0] - m.d);
                int i = Math.abs(v[1] - m.i);
                if (d > m.cone + v[3] || i > m.cone + v[3]) continue;
                if (made.strength >= 0 && Math.abs(v[2] - m.s) > made.strength) continue;
                years.put(y, 1L + 2 * m.cone + 2 * v[3] - d - i);
            }
            return years;
        }

        List<TreeSet<Integer>> onSite(int e) {
            List<TreeSet<Integer>> all = new ArrayList<>();
            for (int h = 0; h < hearths.size(); h++) {
                TreeMap<Integer, Long> date = dateOf(h, e);
                TreeSet<Integer> years = date == null ? new TreeSet<>() : new TreeSet<>(date.keySet());
                int[] coin = witnessOf(h, 1, day);
                if (coin != null) years.removeIf(y -> y < coin[3]);
                all.add(years);
            }
            boolean changed = true;
            while (changed) {
                changed = false;
                for (int[] t : orders) {
                    TreeSet<Integer> a = all.get(t[0]);
                    TreeSet<Integer> b = all.get(t[1]);
                    if (!a.isEmpty()) {
                        int least = a.first();
                        changed |= b.removeIf(y -> y <= least);
                    }
                    if (!b.isEmpty()) {
                        int greatest = b.last();
                        changed |= a.removeIf(y -> y >= greatest);
                    }
                }
            }
            return all;
        }

        static long sumOf(TreeMap<Integer, Long> years, int a, int b) {
            long sum = 0;
            for (long w : years.subMap(a, true, b, true).values()) sum += w;
            return sum;
        }

        static List<int[]> piecesOf(TreeMap<Integer, Long> years) {
            List<int[]> pieces = new ArrayList<>();
            for (int y : years.keySet()) {
                int n = pieces.size();
                if (n > 0 && pieces.get(n - 1)[1] == y - 1) pieces.get(n - 1)[1] = y;
                else pieces.add(new int[] {y, y, 0});
            }
            long all = sumOf(years, 0, 1500);
            for (int[] p : pieces) p[2] = (int) (sumOf(years, p[0], p[1]) * 1000 / all);
            return pieces;
        }

        /** null: no such ones, no MEAN. */
        List<int[]> pieces(int h, int e, boolean site) {
            if (!isH(h) || !isE(e)) return null;
            TreeMap<Integer, Long> years = dateOf(h, e);
            if (years == null) return null;
            if (site) years.keySet().retainAll(onSite(e).get(h));
            return piecesOf(years);
        }

        int date(int h, int e, boolean site) {
            List<int[]> pieces = pieces(h, e, site);
            return pieces == null ? NONE : pieces.size();
        }

        long piece(int h, int e, boolean site, int i, int what) {
            List<int[]> pieces = pieces(h, e, site);
            if (pieces == null || !in(i, 0, pieces.size() - 1) || !in(what, 0, 2)) return Run.THROWS;
            return pieces.get(i)[what];
        }

        int quarrels(int e) {
            if (!isE(e)) return NONE;
            List<TreeSet<Integer>> site = onSite(e);
            int many = 0;
            for (int h = 0; h < hearths.size(); h++) {
                TreeMap<Integer, Long> date = dateOf(h, e);
                if (date != null && !date.isEmpty() && site.get(h).isEmpty()) many++;
            }
            return many;
        }

        int test(int e, int what) {
            if (!isE(e) || !in(what, 0, 1)) return NONE;
            int tried = 0;
            int fine = 0;
            for (Member m : editions.get(e).members) {
                TreeMap<Integer, Long> date = dateOf(m.hearth, e);
                if (date == null || date.isEmpty()) continue;
                tried++;
                if (!date.subMap(m.from, true, m.to, true).isEmpty()) fine++;
            }
            return what == 0 ? tried : fine;
        }

        int choose(int e, int sum, int what) {
            if (!isE(e) || !in(sum, 0, 9999) || !in(what, 0, 1)) return LOST;
            Made made = editions.get(e);
            List<Member> some = new ArrayList<>();
            for (int h = 0; h < hearths.size() && some.size() < 10; h++) {
                if (made.of(h) != null || hearths.get(h).cost == 0) continue;
                TreeMap<Integer, Long> date = dateOf(h, e);
                if (date == null || date.isEmpty()) continue;
                int[] best = null;
                long most = -1;
                for (int[] p : piecesOf(date)) {
                    long w = sumOf(date, p[0], p[1]);
                    if (w > most) {
                        most = w;
                        best = p;
                    }
                }
                int mid = (best[0] + best[1]) / 2;
                some.add(member(h, meanOf(h, day), new int[] {Math.max(0, mid - 20), Math.min(1500, mid + 20)}));
            }
            int[][] before = knots(made);
            int gain = 0;
            int bits = 0;
            for (int set = 1; set < 1 << some.size(); set++) {
                if (Integer.bitCount(set) > 3) continue;
                Made then = made.copy();
                int cost = 0;
                int hearthBits = 0;
                for (int k = 0; k < some.size(); k++) {
                    if ((set >> k & 1) == 0) continue;
                    then.members.add(some.get(k));
                    cost += hearths.get(some.get(k).hearth).cost;
                    hearthBits |= 1 << some.get(k).hearth;
                }
                if (cost > sum) continue;
                int[][] after = knots(then);
                int g = 0;
                for (int k = 0; k < 61; k++) {
                    if (before[k] == null) g += after[k] == null ? 0 : 100;
                    else g += before[k][3] - after[k][3];
                }
                // sets come with rising bits, as the hearths rise by their numbers
                if (g > gain) {
                    gain = g;
                    bits = hearthBits;
                }
            }
            return what == 0 ? gain : bits;
        }

        int report(int h, int e) {
            List<int[]> pieces = pieces(h, e, false);
            if (pieces == null || reports.size() == 40) return NONE;
            Account a = new Account();
            a.hearth = h;
            a.edition = e;
            a.day = day;
            a.pieces = pieces;
            reports.add(a);
            return reports.size() - 1;
        }

        int reportOf(int r, int what) {
            if (!in(r, 0, reports.size() - 1) || !in(what, 0, 6)) return NONE;
            Account a = reports.get(r);
            int n = a.pieces.size();
            if (what < 4) return new int[] {a.hearth, a.edition, a.day, n}[what];
            if (what == 4) return n == 0 ? NONE : a.pieces.get(0)[0];
            if (what == 5) return n == 0 ? NONE : a.pieces.get(n - 1)[1];
            List<int[]> now = pieces(a.hearth, editions.size() - 1, false);
            if (now == null) now = new ArrayList<>();
            return Arrays.deepEquals(now.toArray(), a.pieces.toArray()) ? 0 : 1;
        }

        int of(int h, int what) {
            if (!isH(h) || !in(what, 0, 4)) return NONE;
            int ahead = 0;
            int behind = 0;
            for (int[] t : orders) {
                if (t[1] == h) ahead++;
                if (t[0] == h) behind++;
            }
            return new int[] {hearths.get(h).zone, hearths.get(h).cubes.size(), hearths.get(h).cost, ahead, behind}[what];
        }

        int count(int what) {
            if (!in(what, 0, 9)) return NONE;
            return new int[] {hearths.size(), day, doubles.size(), tilts.size(), witnesses.size(), orders.size(), laws.size(),
                editions.size(), reports.size(), tape.length()}[what];
        }
    }
}
