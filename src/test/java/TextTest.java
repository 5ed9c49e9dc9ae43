/** The edges of a TEXT of RULES: its bytes, TOKENS, STATEMENTS, brackets, numbers, names, and what it holds. */
public final class TextTest extends Asked {
    private static final String[] STATEMENTS = {"drop", "limit", "keep", "base", "doubt", "use", "skip", "window", "need", "strength"};
    private static final String[] JOINING = {"if", "and", "or", "not"};
    private static final String[] OF_CUBES = {"d", "i", "s", "machine", "cube", "hearth", "zone"};
    private static final String[] OF_HEARTHS = {"hearth", "zone", "cubes", "from", "to", "length", "wood", "coin", "writ"};
    private static final String[] NOWHERE = {"x", "dd", "a", "z", "hearths", "zon", "ifs", "strengt", "writwrit"};

    public static void main(String[] args) {
        bytesInAll();
        oneByte();
        byteBehindAWord();
        byteAsASign();
        byteAsAFactor();
        words();
        figures();
        smallAndGreatN();
        statements();
        brackets();
        names();
        firstAlongTheText();
        theEnd();
        bytesCutOff();
        manyClauses();
        lastTold();
        unsaidAgain();
        greatSums();
        fromTheLeft();
        known();
        faultChangesNothing();
        tellAndEnd();
    }

    private static String times(int n, String text) {
        return text.repeat(n);
    }

    private static String sign(int b) {
        return String.valueOf((char) b);
    }

    // ---- bytes and TOKENS ----------------------------------------------------------------------

    private static void bytesInAll() {
        promise = "a TEXT has at most 400 bytes";
        fault("base 1" + times(393, " ") + ";", 1, NONE);
        fault("base 1" + times(394, " "), -2, 400);
        fault(times(400, "\n"), 0, NONE);
        fault(times(399, " ") + "#", -2, 399);
        fault("use if " + times(195, "1+") + "1=", -2, 399);
        fault("use if " + times(194, "1+") + "1=1;", 1, NONE);
        fault(times(400, "9"), -2, 0);
        fault(times(400, "a"), -2, 0);
        fault("base " + times(391, " ") + "9999", -2, 400);
        fault("base " + times(390, " ") + "9999;", 1, NONE);
        fault("base " + times(390, " ") + "99999", -2, 395);
        NorthCurve x = new NorthCurve();
        feed(x, times(400, " "));
        due("20 bytes more", NONE, x.feed(0, 0, 0, 0, 0));
        due("count(9)", 400, x.count(9));
        due("400 blanks", 0, x.rules());
        due("no bytes", 0, x.rules());
        due("two texts", 2, x.count(6));
    }

    private static boolean isBlank(int b) {
        return b == 32 || b == 10;
    }

    private static boolean isLetter(int b) {
        return b >= 'a' && b <= 'z';
    }

    private static boolean isFigure(int b) {
        return b >= '0' && b <= '9';
    }

    private static void oneByte() {
        promise = "blanks are 32 and 10 alone";
        for (int b = 0; b < 256; b++) fault(sign(b), isBlank(b) ? 0 : -2, isBlank(b) ? NONE : 0);
    }

    private static void byteBehindAWord() {
        promise = "WORDS are small letters, as many as stand together";
        for (int b = 0; b < 256; b++) {
            boolean isFine = isBlank(b) || isFigure(b);
            fault("base" + sign(b) + "1;", isFine ? 1 : -2, isFine ? NONE : isLetter(b) ? 0 : 4);
        }
    }

    private static void byteAsASign() {
        promise = "SIGN is < or > or =";
        for (int b = 0; b < 256; b++) {
            String text = "drop if d" + sign(b) + "1;";
            if (b == '<' || b == '>' || b == '=') fault(text, 1, NONE);
            else if (isBlank(b)) fault(text, -2, 10);
            else if (isLetter(b)) fault(text, -4, 8);
            else if (b == '+' || b == '-' || b == '*') fault(text, -2, 11);
            else fault(text, -2, 9);
        }
    }

    private static void byteAsAFactor() {
        promise = "PART and FACTOR";
        for (int b = 0; b < 256; b++) {
            String text = "drop if " + sign(b) + "1=1;";
            if (isBlank(b) || isFigure(b)) fault(text, 1, NONE);
            else if (b == 'd' || b == 'i' || b == 's') fault(text, -2, 9);
            else if (isLetter(b)) fault(text, -4, 8);
            else if (b == '[') fault(text, -2, 12);
            else if (b == '(') fault(text, -2, 10);
            else fault(text, -2, 8);
            String behind = "drop if 1=1" + sign(b) + ";";
            if (isBlank(b) || isFigure(b)) fault(behind, 1, NONE);
            else if (b == '+' || b == '-' || b == '*') fault(behind, -2, 12);
            else if (b == ';') fault(behind, -2, 12);
            else fault(behind, -2, 11);
        }
    }

    private static void words() {
        promise = "between TOKENS blanks where one likes";
        fault("dropif d<1;", -2, 0);
        fault("drop ifd<1;", -2, 5);
        fault("drop if notd<1;", -4, 8);
        fault("drop if not[d<1];", 1, NONE);
        fault("drop if 1=1and 1=1or not 1=1;", 1, NONE);
        fault("drop if 1=1and1=1or1=1;", 1, NONE);
        fault("drop if 1=d and 1=1;", 1, NONE);
        fault("drop if 1=dand 1=1;", -4, 10);
        fault("drop if 1=1andd=1;", -2, 11);
        fault("l imit 5;", -2, 0);
        fault("limit 1 2;", -2, 8);
        fault("limit\n\n 5 \n;\n", 1, NONE);
        fault("drop if[1<2]and(1)<2or(1)=(2);base5;", 2, NONE);
        fault("Base 1;", -2, 0);
        fault("bAse 1;", -2, 0);
        fault("drop If 1=1;", -2, 5);
        fault("drop if D=1;", -2, 8);
    }

    private static void figures() {
        promise = "N: 1 to 4 figures, more than 4 are a FAULT at the first one";
        for (String word : new String[] {"limit", "base", "strength", "window"}) {
            fault(word + " 1;", 1, NONE);
            fault(word + " 0001;", 1, NONE);
            fault(word + " 9999;", 1, NONE);
            fault(word + " 00001;", -2, word.length() + 1);
            fault(word + " 10000;", -2, word.length() + 1);
        }
        fault("doubt 9999 if 1=1;", 1, NONE);
        fault("doubt 10000 if 1=1;", -2, 6);
        fault("keep 00013;", -2, 5);
        fault("keep 00000;", -2, 5);
        fault("keep 0012;", 1, NONE);
        fault("need 00025;", -2, 5);
        fault("use if 9999=1;", 1, NONE);
        fault("use if 00000=1;", -2, 7);
        fault("use if 1=0000;", 1, NONE);
        fault("use if 1=00000;", -2, 9);
        fault("use if 1+2*12345=0;", -2, 11);
        fault("use if (12345)=0;", -2, 8);
        fault("base 1;12345", -2, 7);
    }

    private static void smallAndGreatN() {
        promise = "an N that is 0 behind keep, window or need, above 12 behind keep, above 24 behind need";
        for (int n = 0; n <= 30; n++) {
            int keep = n >= 1 && n <= 12 ? 1 : -3;
            int need = n >= 1 && n <= 24 ? 1 : -3;
            fault("keep " + n + ";", keep, keep == 1 ? NONE : 5);
            fault("need " + n + ";", need, need == 1 ? NONE : 5);
            fault("window " + n + ";", n > 0 ? 1 : -3, n > 0 ? NONE : 7);
            fault("limit " + n + ";base " + n + ";strength " + n + ";doubt " + n + " if 1=1;", 4, NONE);
        }
        fault("keep 9999", -3, 5);
        fault("need 9999", -3, 5);
        fault("base 1;keep   0000 0;", -3, 14);
        fault("window 00", -3, 7);
        fault("keep 12;keep 13;", -3, 13);
        fault("keep;", -2, 4);
        fault("need d;", -2, 5);
    }

    // ---- STATEMENTS, brackets ------------------------------------------------------------------

    private static void statements() {
        promise = "at most 20 STATEMENTS; the first TOKEN of a 21st, if it may stand there";
        for (int n = 0; n <= 20; n++) fault(times(n, "base 1;"), n, NONE);
        String twenty = times(20, "base 1;");
        for (String word : STATEMENTS) {
            fault(twenty + word, -5, 140);
            fault(twenty + "\n " + word + " 1;", -5, 142);
            fault(times(19, "base 1;") + word, -2, 133 + word.length());
        }
        for (String word : JOINING) fault(twenty + word, -2, 140);
        for (String word : OF_CUBES) fault(twenty + word, -2, 140);
        for (String word : new String[] {"5", "12345", "[", "(", ";", "#", "bas", "basee", "Base"}) fault(twenty + " " + word, -2, 141);
        fault(twenty + " ", 20, NONE);
        fault(times(20, "use if 1=1;") + "use if 1=1;", -5, 220);
        fault(times(20, "use if 1=1;"), 20, NONE);
        fault(times(13, "drop if d=1;") + times(7, "keep 1;") + "x", -2, 205);
        fault(times(19, "base 1;") + "keep 0;drop", -3, 138);
        fault(times(20, "base 1;") + "keep 0;", -5, 140);
    }

    private static void brackets() {
        promise = "a 5th bracket (of both sorts together) that is open at once";
        for (int square = 0; square <= 6; square++) {
            for (int round = 0; round <= 6; round++) {
                String text = "drop if " + times(square, "[") + times(round, "(") + "1" + times(round, ")") + "=1" + times(square, "]") + ";";
                boolean isFine = square + round <= 4;
                fault(text, isFine ? 1 : -5, isFine ? NONE : 12);
            }
        }
        fault("drop if ((((1))))+((((1))))=((((1))));", 1, NONE);
        fault("drop if ((((1))))+(((((1)))))=1;", -5, 22);
        fault("drop if 1=(((((1)))));", -5, 14);
        fault("drop if 1*((((1))))*(1)=((((1*(1)))));", -5, 30);
        fault("drop if [[[[1=1]]]] or [[[[1=1]]]] and [[[[1=1]]]];", 1, NONE);
        fault("drop if [[[[1=1]]]] or [[[[not [1=1]]]]];", -5, 31);
        fault("drop if [[[1=(1)]]] or [[[[1=(1)]]]];", -5, 29);
        fault("drop if not [not [not [not [1=1]]]];", 1, NONE);
        fault("drop if not [not [not [not [not [1=1]]]]];", -5, 32);
        fault("drop if [[[[1=1 [", -2, 16);
        fault("drop if [[[[1 (", -2, 14);
        fault("drop if ((((1 (", -2, 14);
        fault("drop if ((((1+[", -2, 14);
        fault("drop if ((((1+(", -5, 14);
        fault("drop if ((((", -2, 12);
        fault("drop if [[[[", -2, 12);
        fault("drop if [1=1;use if 1=1;", -2, 12);
        fault("drop if (1=1);", -2, 10);
        fault("drop if [1]=1;", -2, 10);
        fault("drop if [];", -2, 9);
        fault("drop if ()=1;", -2, 9);
        fault("drop if [1=1)", -2, 12);
        fault("drop if (1]=1", -2, 10);
        fault("drop if [(1=1)]", -2, 11);
    }

    // ---- names ---------------------------------------------------------------------------------

    private static boolean isOne(String[] words, String word) {
        for (String w : words) if (w.equals(word)) return true;
        return false;
    }

    private static void names() {
        promise = "a WORD that is to be a FACTOR and is no NAME there";
        for (String[] words : new String[][] {STATEMENTS, JOINING, OF_CUBES, OF_HEARTHS, NOWHERE}) {
            for (String word : words) {
                for (String clause : new String[] {"drop", "doubt 5", "use", "skip"}) nameIn(clause, word);
            }
        }
    }

    private static void nameIn(String clause, String word) {
        String head = clause + " if ";
        boolean isName = isOne(clause.equals("drop") ? OF_CUBES : OF_HEARTHS, word);
        boolean isNot = word.equals("not");
        fault(head + word + "=1;", isName ? 1 : isNot ? -2 : -4, isName ? NONE : head.length() + (isNot ? 3 : 0));
        fault(head + "1<" + word + ";", isName ? 1 : -4, isName ? NONE : head.length() + 2);
        fault(head + "1+2*" + word + "=1;", isName ? 1 : -4, isName ? NONE : head.length() + 4);
        fault(head + "2-" + word + "=1;", isName ? 1 : -4, isName ? NONE : head.length() + 2);
        fault(head + "(" + word + ")=1;", isName ? 1 : -4, isName ? NONE : head.length() + 1);
        fault(head + "not " + word + "=1;", isName ? 1 : isNot ? -2 : -4, isName ? NONE : head.length() + (isNot ? 7 : 4));
        fault(head + "[" + word + "=1];", isName ? 1 : isNot ? -2 : -4, isName ? NONE : head.length() + (isNot ? 4 : 1));
        // where no FACTOR may stand it is a TOKEN with which no text goes on
        boolean joins = word.equals("and") || word.equals("or");
        if (!joins) fault(head + "1=1 " + word, -2, head.length() + 4);
        fault(head + "1 " + word, -2, head.length() + 2);
    }

    private static void firstAlongTheText() {
        promise = "the first FAULT along the text";
        fault("keep 0;need 0;x=1;#", -3, 5);
        fault("use if x=1;keep 0;", -4, 7);
        fault("use if 1=1 #;keep 0;use if x=1;", -2, 11);
        fault("use if [[[[[x=1;keep 0;", -5, 11);
        fault("use if [[[[x=1 [;keep 0;", -4, 11);
        fault("keep 3 keep 0;", -2, 7);
        fault("window 5;window 0", -3, 16);
        fault("use if 12345=x;", -2, 7);
        fault("use if x=12345;", -4, 7);
        fault("drop if zone=1;drop if wood=1;", -4, 23);
        fault("use if wood=1;use if machine=1;", -4, 21);
        fault("skip if zone=1;drop if d=1;skip if d=1;", -4, 35);
    }

    private static void theEnd() {
        promise = "the end: at how many bytes there are";
        String[] whole = {"drop if not [ d + 1 > ( i ) * 2 ] or s = 3 and d < 1 ;", "doubt 7 if wood = 1 ;", "keep 5 ;", "need 24 ;", "strength 0 ;"};
        for (String text : whole) {
            fault(text, 1, NONE);
            fault(text + "   ", 1, NONE);
            for (int k = 0; k < text.length(); k++) {
                if (text.charAt(k) == ' ') {
                    fault(text.substring(0, k), -2, k);
                    fault(text.substring(0, k + 1), -2, k + 1);
                    fault(text.substring(0, k) + " \n ", -2, k + 3);
                }
            }
        }
    }

    private static void cut(String bytes, int length, int answer, int place) {
        NorthCurve x = new NorthCurve();
        feed(x, bytes);
        due("end(" + length + ") of \"" + bytes + "\"", length, x.end(length));
        due("rules()", answer, x.rules());
        due("place()", place, x.place());
    }

    private static void bytesCutOff() {
        promise = "the TAPE has its first n bytes alone";
        cut("base 12;", 6, -2, 6);
        cut("base 1 ;", 6, -2, 6);
        cut("drop if 1<dd", 11, -2, 11);
        cut("drop if 1<d;", 11, -2, 11);
        cut("base 1;base 2;", 7, 1, NONE);
        cut("base 1;#", 7, 1, NONE);
        cut("base 12345;", 9, -2, 9);
        cut("base 12345;", 10, -2, 5);
        cut("baselimit 5;", 4, -2, 4);
        cut("drop if 1=1 and 1=1;", 12, -2, 12);
        cut("use if zonehearth", 11, -2, 11);
        NorthCurve x = new NorthCurve();
        feed(x, "limit 9999;keep 12;");
        x.rules();
        feed(x, "base 1");
        due("bytes of an older text are gone", -2, x.rules());
        due("place()", 6, x.place());
        feed(x, "base 7;base 8;");
        x.end(7);
        feed(x, "keep 5;");
        due("behind what was cut", 2, x.rules());
        hearthAt(x, 0, 0, 0);
        due("base 7", 7, x.mean(0, 3, 0));
    }

    private static void manyClauses() {
        promise = "20 STATEMENTS that all count";
        StringBuilder drops = new StringBuilder();
        for (int k = 0; k < 9; k++) drops.append("drop if cube=99;");
        due("20 drops", 20, dropsOf(drops + times(10, "base 1;") + "drop if cube=2;"));
        NorthCurve x = new NorthCurve();
        hearthAt(x, 0, 0, 0);
        due("20 doubts", 20, text(x, times(19, "doubt 1 if 1=1;") + "doubt 900 if 1=1;"));
        due("all count", 10 + 19 + 900, x.mean(0, 3, 0));
        x.witness(0, 0, 5, 5);
        due("20 of use and skip", 20, text(x, times(19, "use if 1=1;") + "skip if 1=1;"));
        due("the last one", 0, x.dated(0, 0));
        due("20 of use and skip", 20, text(x, times(19, "skip if 1=1;") + "use if 1=1;"));
        due("the last one", 1, x.dated(0, 0));
        due("20 drops", 20, text(x, times(19, "drop if 1=2;") + "drop if 1=1;"));
        due("the last one", 1, x.dropped(0, 0, 0));
        due("20 settings", 20, text(x, times(19, "base 0;") + "base 5;"));
        due("the last one", 5, x.mean(0, 3, 0));
    }

    private static int dropsOf(String text) {
        NorthCurve x = new NorthCurve();
        x.hearth(0);
        for (int c = 0; c < 3; c++) x.cube(0, 0, c, c, c);
        int statements = text(x, text);
        due("the 20th holds", 1, x.dropped(0, 2, 0));
        due("for it alone", 0, x.dropped(0, 1, 0));
        return statements;
    }

    // ---- what a text holds ---------------------------------------------------------------------

    /** A hearth of five cubes with D 0, 0, 0, 10, 40, dated 100 to 100. */
    private static NorthCurve five() {
        NorthCurve x = new NorthCurve();
        x.hearth(0);
        for (int d : new int[] {0, 0, 0, 10, 40}) x.cube(0, 0, d, 0, 0);
        x.witness(0, 0, 100, 100);
        return x;
    }

    private static void lastTold() {
        promise = "of limit, keep, base, window, need, strength the last told in the text holds";
        NorthCurve x = five();
        // the middle is 10: 40 lies 30 from it; without it 2: 10 lies 8 from it
        text(x, "limit 5;limit 29;keep 4;keep 1;");
        due("limit 29", 4, x.mean(0, 4, 0));
        text(x, "limit 5;limit 30;keep 1;");
        due("limit 30", 5, x.mean(0, 4, 0));
        text(x, "limit 30;limit 7;keep 1;");
        due("limit 7", 3, x.mean(0, 4, 0));
        text(x, "limit 0;keep 1;keep 4;");
        due("keep 4", 4, x.mean(0, 4, 0));
        text(x, "limit 0;keep 5;keep 3;");
        due("keep 3", 3, x.mean(0, 4, 0));
        text(x, "base 7;use if 1=1;base 9;limit 0;");
        due("base 9", 9, x.mean(0, 3, 0));
        text(x, "base 0;doubt 3 if 1=1;doubt 4 if 1=1;limit 0;");
        due("each doubt counts", 7, x.mean(0, 3, 0));
        text(x, "window 500;window 26;");
        x.edition();
        due("window 26", LOST, x.curve(0, 150, 0));
        due("window 26", 10, x.curve(0, 125, 0));
        text(x, "need 1;need 2;");
        x.edition();
        due("need 2", LOST, x.curve(1, 100, 0));
        text(x, "need 2;need 1;");
        x.edition();
        due("need 1", 10, x.curve(2, 100, 0));
        int h = hearthAt(x, 10, 0, 5);
        text(x, "strength 4;strength 5;");
        x.edition();
        due("strength 5", 1, x.date(h, 3, false));
        text(x, "strength 5;strength 4;");
        x.edition();
        due("strength 4", 0, x.date(h, 4, false));
    }

    private static void unsaidAgain() {
        promise = "what a text doesn't say is 9999, 3, 10, 100, 1; no strength";
        NorthCurve x = five();
        int h = hearthAt(x, 10, 0, 999);
        text(x, "limit 0;keep 1;base 99;window 1;need 2;strength 1;drop if d=10;doubt 5 if 1=1;skip if 1=1;");
        due("CONE", 104, x.mean(0, 3, 0));
        due("skipped", 0, x.dated(0, 0));
        text(x, "");
        due("limit 9999", 5, x.mean(0, 4, 0));
        // 10, 10, 10, 0, 30: 60 by 5
        due("base 10", 22, x.mean(0, 3, 0));
        due("DATED", 1, x.dated(0, 0));
        due("edition()", 0, x.edition());
        due("window 100: 75 YEARS", 10, x.curve(0, 25, 0));
        due("window 100: 100 YEARS", LOST, x.curve(0, 0, 0));
        due("window 100: 100 YEARS", LOST, x.curve(0, 200, 0));
        due("need 1", 10, x.curve(0, 100, 0));
        due("no strength", 1, x.date(h, 0, false));
        text(x, "limit 0;");
        due("keep 3", 3, x.mean(0, 4, 0));
        text(x, "keep 1;");
        due("limit 9999", 5, x.mean(0, 4, 0));
        // the same without any text
        NorthCurve y = five();
        due("CONE", 22, y.mean(0, 3, 0));
        y.witness(0, 0, 125, 125);
        due("edition()", 0, y.edition());
        due("99 YEARS are none of the KNOTS; 75 are", 10, y.curve(0, 50, 0));
        due("100", LOST, y.curve(0, 25, 0));
        due("75", 10, y.curve(0, 200, 0));
        due("100", LOST, y.curve(0, 225, 0));
        // 99 YEARS from a KNOT to the SPAN
        y.witness(0, 0, 124, 126);
        due("edition()", 1, y.edition());
        due("99", 10, y.curve(1, 25, 0));
        due("99", 10, y.curve(1, 225, 0));
    }

    private static void greatSums() {
        promise = "each sum, difference, product above 1000000000 is that, below -1000000000 likewise";
        String most = "1000*1000*1000";
        String least = "0-1000*1000*1000";
        // one more by a product is 1001 * 999001
        holds(most + "-1+1=" + most, true);
        holds(most + "-1<" + most, true);
        holds(most + "+1=" + most, true);
        holds(most + "+1-1<" + most, true);
        holds("1+" + most + "-1<" + most, true);
        holds(most + "-(0-1)=" + most, true);
        holds(most + "-(0-1)-1=999*1000*1000+999*1000+999", true);
        holds("1001*(999*1000+1)=" + most, true);
        holds("1001*(999*1000+1)-1=999*1000*1000+999*1000+999", true);
        holds("1001*999*1000-1000*1000*999=999*1000", true);
        holds("(" + least + ")+1>" + least, true);
        holds("(" + least + ")-1=" + least, true);
        holds("(" + least + ")-1+1>" + least, true);
        holds(least + "-1+1=0-999*1000*1000-999*1000-999", true);
        holds(least + "+(0-1)+1=0-999*1000*1000-999*1000-999", true);
        holds("(0-1001)*(999*1000+1)=" + least, true);
        holds("(0-1001)*(999*1000+1)+1=0-999*1000*1000-999*1000-999", true);
        holds("1001*(0-999*1000-1)=" + least, true);
        holds("(" + most + ")*(" + most + ")=" + most, true);
        holds("(" + least + ")*(" + least + ")=" + most, true);
        holds("(" + least + ")*(" + most + ")=" + least, true);
        holds(most + "+" + most + "=" + most, true);
        holds("(" + least + ")-" + most + "=" + least, true);
        holds("(" + least + ")+" + most + "=0", true);
        holds(most + "*0=0", true);
        holds("9999*9999*9999*9999*9999*9999-" + most + "=0", true);
    }

    private static void fromTheLeft() {
        promise = "all from the left on";
        holds("9-5-3=1", true);
        holds("9-5-3=7", false);
        holds("9-5+3=7", true);
        holds("2+3*4=14", true);
        holds("2*3+4=10", true);
        holds("9-2*3=3", true);
        holds("9999*9999*9999-9999*9999*9999=0", true);
        holds("9999*9999*11-9999*9999=9999*9999*9+9999*9999-9999*9999", false);
        // 1000000000 less 99980001 and so on, not the other way round
        holds("9999*9999*11-9999*9999=1000*1000*1000-9999*9999", true);
        holds("9999*9999-9999*9999*11+9999*9999*11=9999*9999", true);
        holds("9999*9999+9999*9999*11-9999*9999*11=0", true);
        holds("1=2 and 1=2 or 1=1", true);
        holds("1=1 or 1=2 and 1=2", true);
        holds("1=2 or 1=1 and 1=2", false);
        holds("not 1=2 and 1=2", false);
        holds("not [1=2 and 1=2]", true);
        holds("not 1=1 or not 1=2", true);
        holds("1=1 and not not 1=1", true);
        String[] no = {"1>2", "2<1", "1=2"};
        String[] yes = {"2>1", "1<2", "2=2"};
        for (String n : no) {
            for (String y : yes) {
                holds(n + " and " + y, false);
                holds(y + " and " + n, false);
                holds(y + " and " + y, true);
                holds(n + " or " + y, true);
                holds(y + " or " + n, true);
                holds(n + " or " + n, false);
                holds("not " + n, true);
                holds("not " + y, false);
                holds("not " + n + " and " + y, true);
                holds("not " + y + " or " + n, false);
                holds("not [" + n + " and " + y + "]", true);
                holds("not [" + y + " or " + n + "]", false);
            }
        }
        holds("d<3", false);
        holds("d<4", true);
        holds("d>2", true);
        holds("d>3", false);
        holds("i<0-4", false);
        holds("i<0-3", true);
        holds("i>0-5", true);
        holds("i>0-4", false);
        holds("s=4", false);
        holds("s=5", true);
        holds("s=6", false);
    }

    private static void known() {
        promise = "RULES as known on a DAY: the last told by then";
        NorthCurve x = five();
        x.day(3);
        text(x, "base 20;");
        text(x, "base 30;");
        x.day(1);
        text(x, "base 40;");
        text(x, "base 50;base x;");
        due("none by DAY 2", 22, x.mean(0, 3, 2));
        due("on DAY 3 the last of two", 42, x.mean(0, 3, 3));
        due("on DAY 4", 52, x.mean(0, 3, 4));
        x.day(1);
        due("on DAY 5 none was told", 52, x.mean(0, 3, 5));
        text(x, "");
        due("an empty text is one too", 22, x.mean(0, 3, 5));
        due("on DAY 4", 52, x.mean(0, 3, 4));
        text(x, "drop if d=40;skip if hearth=0;limit 1;keep 4;");
        due("dropped by DAY 5", 1, x.dropped(0, 4, 5));
        due("by DAY 4", 0, x.dropped(0, 4, 4));
        due("dated by DAY 5", 0, x.dated(0, 5));
        due("dated by DAY 4", 1, x.dated(0, 4));
        due("an EDITION goes by the DAY at hand", NONE, x.edition());
    }

    private static void faultChangesNothing() {
        promise = "a text with a FAULT changes nothing";
        NorthCurve x = five();
        text(x, "base 20;limit 8;keep 4;");
        String[] bad = {"base 1;base 2", "keep 1;window 0;", "limit 1;doubt 9 if 1=1;drop if 1=1;#", "drop if 1=1;use if x=1;", "skip if 1=1;skip if [[[[[1=1",
            "base 5;base 12345;"};
        int[] kinds = {-2, -3, -2, -4, -5, -2};
        for (int k = 0; k < bad.length; k++) {
            due("rules() of " + bad[k], kinds[k], text(x, bad[k]));
            due("count(6)", 1, x.count(6));
            due("the TAPE is empty", 0, x.count(9));
            due("LEFT", 4, x.mean(0, 4, 0));
            // 0, 0, 0, 10: the middle 2, 14 by 4
            due("CONE", 23, x.mean(0, 3, 0));
            due("dated", 1, x.dated(0, 0));
        }
        due("the next one is the second", 0, text(x, ""));
        due("count(6)", 2, x.count(6));
    }
}
