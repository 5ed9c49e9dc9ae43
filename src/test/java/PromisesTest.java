import java.lang.reflect.Constructor;
import java.lang.reflect.Field;
import java.lang.reflect.Method;
import java.lang.reflect.Modifier;
import java.util.Arrays;
import java.util.TreeSet;

/** Of each promise of the document: ordinary inputs, the edges that it names, and wrong inputs, worked out by hand. */
public final class PromisesTest extends Asked {
    public static void main(String[] args) {
        face();
        newObject();
        zone();
        hearth();
        tilt();
        cost();
        twice();
        bias();
        cube();
        witness();
        order();
        tape();
        rules();
        faults();
        place();
        day();
        dropped();
        droppedTooFar();
        sums();
        right();
        mean();
        doubt();
        span();
        dated();
        useAndSkip();
        edition();
        curve();
        weights();
        without();
        uses();
        changed();
        date();
        piece();
        parts();
        onSite();
        quarrels();
        test();
        choose();
        chooseAmongTen();
        chooseApart();
        report();
        reportOf();
        of();
        count();
        tellAndEnd();
    }

    // ---- the face, and promises 1 to 10 -------------------------------------------------------

    private static void face() {
        promise = "the face";
        TreeSet<String> methods = new TreeSet<>();
        for (Method m : NorthCurve.class.getDeclaredMethods()) {
            if (Modifier.isPrivate(m.getModifiers())) continue;
            due("public " + m.getName(), true, Modifier.isPublic(m.getModifiers()) && !Modifier.isStatic(m.getModifiers()));
            methods.add(m.getReturnType() + " " + m.getName() + Arrays.toString(m.getParameterTypes()));
        }
        due("how many methods", 33, methods.size());
        for (Method m : NorthCurve.class.getDeclaredMethods()) {
            if (!Modifier.isPrivate(m.getModifiers())) continue;
            for (String face : methods) due(m.getName() + " bears a public name", false, face.contains(" " + m.getName() + "["));
        }
        int fields = 0;
        for (Field f : NorthCurve.class.getDeclaredFields()) if (!Modifier.isPrivate(f.getModifiers())) fields++;
        due("fields", 2, fields);
        Constructor<?>[] made = NorthCurve.class.getDeclaredConstructors();
        due("constructors", 1, made.length);
        due("constructor's parameters", 0, made[0].getParameterCount());
        due("final", true, Modifier.isFinal(NorthCurve.class.getModifiers()));
        due("NONE", -1, NorthCurve.NONE);
        due("LOST", -2000000, NorthCurve.LOST);
    }

    private static void newObject() {
        promise = "1 a new object";
        NorthCurve x = new NorthCurve();
        for (int what = 0; what < 10; what++) due("count(" + what + ")", 0, x.count(what));
        due("place()", NONE, x.place());
        due("of(0, 0)", NONE, x.of(0, 0));
        due("bias(1, 0, 0)", 0, x.bias(1, 0, 0));
        due("bias(1, 0, 1)", LOST, x.bias(1, 0, 1));
        due("day(0)", 0, x.day(0));
        due("end(0)", 0, x.end(0));
        due("end(1)", NONE, x.end(1));
        due("mean(0, 0, 0)", LOST, x.mean(0, 0, 0));
        due("curve(0, 0, 0)", LOST, x.curve(0, 0, 0));
        due("reportOf(0, 0)", NONE, x.reportOf(0, 0));
    }

    private static void zone() {
        promise = "2 zone";
        NorthCurve x = new NorthCurve();
        x.hearth(5);
        x.cube(0, 0, 10, 20, 30);
        due("mean D", 10, x.mean(0, 0, 0));
        due("zone(5, -200, 200)", true, x.zone(5, -200, 200));
        due("mean D", -190, x.mean(0, 0, 0));
        due("mean I", 220, x.mean(0, 1, 0));
        due("mean S", 30, x.mean(0, 2, 0));
        due("right has no TURN", 10, x.right(0, 0, 0, 0));
        due("zone(5, 200, -200)", true, x.zone(5, 200, -200));
        due("zone(0, 1, 1)", true, x.zone(0, 1, 1));
        due("zone(6, 0, 0)", false, x.zone(6, 0, 0));
        due("zone(-1, 0, 0)", false, x.zone(-1, 0, 0));
        due("zone(5, 201, 0)", false, x.zone(5, 201, 0));
        due("zone(5, -201, 0)", false, x.zone(5, -201, 0));
        due("zone(5, 0, 201)", false, x.zone(5, 0, 201));
        due("zone(5, 0, -201)", false, x.zone(5, 0, -201));
        due("mean D", 210, x.mean(0, 0, 0));
        due("mean I", -180, x.mean(0, 1, 0));
        x.day(3);
        x.zone(5, 1, 2);
        due("TURN as it is now, of a DAY before", 11, x.mean(0, 0, 0));
    }

    private static void hearth() {
        promise = "3 hearth";
        NorthCurve x = new NorthCurve();
        due("hearth(6)", NONE, x.hearth(6));
        due("hearth(-1)", NONE, x.hearth(-1));
        for (int h = 0; h < 24; h++) due("hearth(" + h % 6 + ")", h, x.hearth(h % 6));
        due("the 25th", NONE, x.hearth(0));
        due("count(0)", 24, x.count(0));
        due("of(23, 0)", 5, x.of(23, 0));
    }

    private static void tilt() {
        promise = "4 tilt";
        NorthCurve x = new NorthCurve();
        due("tilt(0, 0, 0)", false, x.tilt(0, 0, 0));
        x.hearth(0);
        x.cube(0, 0, 5, 6, 7);
        due("tilt(0, 300, -300)", true, x.tilt(0, 300, -300));
        due("right D", 305, x.right(0, 0, 0, 0));
        due("right I", -294, x.right(0, 0, 1, 0));
        due("right S", 7, x.right(0, 0, 2, 0));
        due("tilt(0, -300, 300)", true, x.tilt(0, -300, 300));
        due("the last counts", -295, x.right(0, 0, 0, 0));
        due("tilt(0, 301, 0)", false, x.tilt(0, 301, 0));
        due("tilt(0, -301, 0)", false, x.tilt(0, -301, 0));
        due("tilt(0, 0, 301)", false, x.tilt(0, 0, 301));
        due("tilt(0, 0, -301)", false, x.tilt(0, 0, -301));
        due("tilt(1, 0, 0)", false, x.tilt(1, 0, 0));
        due("tilt(-1, 0, 0)", false, x.tilt(-1, 0, 0));
        x.day(1);
        due("tilt(0, 1, 1)", true, x.tilt(0, 1, 1));
        due("by DAY 0", -295, x.right(0, 0, 0, 0));
        due("by DAY 1", 6, x.right(0, 0, 0, 1));
        x.hearth(0);
        x.cube(1, 0, 5, 6, 7);
        due("of another one none", 5, x.right(1, 0, 0, 1));
        for (int k = 3; k < 100; k++) due("tilt " + k, true, x.tilt(1, k, 0));
        due("the 101st", false, x.tilt(1, 0, 0));
        due("count(3)", 100, x.count(3));
        due("the last stays", 104, x.right(1, 0, 0, 1));
    }

    private static void cost() {
        promise = "5 cost";
        NorthCurve x = new NorthCurve();
        due("cost(0, 1)", false, x.cost(0, 1));
        x.hearth(0);
        due("at first", 0, x.of(0, 2));
        due("cost(0, 999)", true, x.cost(0, 999));
        due("of(0, 2)", 999, x.of(0, 2));
        due("cost(0, 1000)", false, x.cost(0, 1000));
        due("cost(0, -1)", false, x.cost(0, -1));
        due("cost(-1, 5)", false, x.cost(-1, 5));
        due("it stays", 999, x.of(0, 2));
        due("cost(0, 0)", true, x.cost(0, 0));
        due("none", 0, x.of(0, 2));
    }

    private static void twice() {
        promise = "6 twice";
        NorthCurve x = new NorthCurve();
        due("twice(4, 0, 0, 0)", false, x.twice(4, 0, 0, 0));
        due("twice(-1, 0, 0, 0)", false, x.twice(-1, 0, 0, 0));
        due("twice(0, 10, 0, 0)", false, x.twice(0, 10, 0, 0));
        due("twice(0, -1, 0, 0)", false, x.twice(0, -1, 0, 0));
        due("twice(0, 0, 901, 0)", false, x.twice(0, 0, 901, 0));
        due("twice(0, 0, -901, 0)", false, x.twice(0, 0, -901, 0));
        due("twice(0, 0, 0, 901)", false, x.twice(0, 0, 0, 901));
        due("twice(0, 0, 0, -901)", false, x.twice(0, 0, 0, -901));
        due("count(2)", 0, x.count(2));
        due("twice(0, 9, 900, -900)", true, x.twice(0, 9, 900, -900));
        due("twice(3, 9, -900, 900)", true, x.twice(3, 9, -900, 900));
        due("bias D", -1800, x.bias(3, 0, 0));
        due("bias I", 1800, x.bias(3, 1, 0));
        for (int k = 2; k < 200; k++) due("twice " + k, true, x.twice(1, 0, 0, 0));
        due("the 201st", false, x.twice(1, 0, 0, 0));
        due("count(2)", 200, x.count(2));
    }

    private static void bias() {
        promise = "7 bias";
        NorthCurve x = new NorthCurve();
        x.twice(1, 0, 7, 0);
        due("a piece that machine 0 has not", 0, x.bias(1, 0, 0));
        x.twice(0, 0, 10, 4);
        due("D", -3, x.bias(1, 0, 0));
        due("I", -4, x.bias(1, 1, 0));
        x.twice(0, 1, 0, 0);
        due("a piece that machine 1 has not", -3, x.bias(1, 0, 0));
        x.twice(1, 1, 0, 1);
        due("-3 by 2, down", -2, x.bias(1, 0, 0));
        due("-3 by 2, down", -2, x.bias(1, 1, 0));
        x.twice(1, 1, 6, 10);
        due("the last counts: 3 by 2", 1, x.bias(1, 0, 0));
        x.day(2);
        x.twice(0, 0, 0, 0);
        due("by DAY 2", 6, x.bias(1, 0, 2));
        due("by DAY 1", 1, x.bias(1, 0, 1));
        due("machine 0 has none", 0, x.bias(0, 0, 2));
        due("machine 2 has none", 0, x.bias(2, 0, 2));
        due("bias(4, 0, 0)", LOST, x.bias(4, 0, 0));
        due("bias(-1, 0, 0)", LOST, x.bias(-1, 0, 0));
        due("bias(1, 2, 0)", LOST, x.bias(1, 2, 0));
        due("bias(1, -1, 0)", LOST, x.bias(1, -1, 0));
        due("bias(1, 0, 3)", LOST, x.bias(1, 0, 3));
        due("bias(1, 0, -1)", LOST, x.bias(1, 0, -1));
    }

    private static void cube() {
        promise = "8 cube";
        NorthCurve x = new NorthCurve();
        due("cube(0, 0, 0, 0, 0)", NONE, x.cube(0, 0, 0, 0, 0));
        x.hearth(0);
        x.hearth(0);
        int[][] bad = {{2, 0, 0, 0, 0}, {-1, 0, 0, 0, 0}, {0, 4, 0, 0, 0}, {0, -1, 0, 0, 0}, {0, 0, 901, 0, 0}, {0, 0, -901, 0, 0},
            {0, 0, 0, 901, 0}, {0, 0, 0, -901, 0}, {0, 0, 0, 0, 1000}, {0, 0, 0, 0, -1}};
        for (int[] b : bad) due("cube" + Arrays.toString(b), NONE, x.cube(b[0], b[1], b[2], b[3], b[4]));
        due("of(0, 1)", 0, x.of(0, 1));
        due("the first", 0, x.cube(0, 3, 900, -900, 999));
        due("of another one", 0, x.cube(1, 0, -900, 900, 0));
        for (int c = 1; c < 12; c++) due("cube " + c, c, x.cube(0, 0, c, 0, 0));
        due("the 13th", NONE, x.cube(0, 0, 0, 0, 0));
        due("of(0, 1)", 12, x.of(0, 1));
        due("of(1, 1)", 1, x.of(1, 1));
        due("right D", 11, x.right(0, 11, 0, 0));
        due("right D of the other one", -900, x.right(1, 0, 0, 0));
    }

    private static void witness() {
        promise = "9 witness";
        NorthCurve x = new NorthCurve();
        due("witness(0, 0, 0, 0)", false, x.witness(0, 0, 0, 0));
        x.hearth(0);
        int[][] bad = {{1, 0, 0, 0}, {-1, 0, 0, 0}, {0, 3, 0, 0}, {0, -1, 0, 0}, {0, 0, -1, 0}, {0, 0, 0, 1501}, {0, 0, 1501, 1501}, {0, 0, 5, 4},
            {0, 1, 5, 4}, {0, 1, 5, 1501}};
        for (int[] b : bad) due("witness" + Arrays.toString(b), false, x.witness(b[0], b[1], b[2], b[3]));
        due("count(4)", 0, x.count(4));
        due("witness(0, 2, 0, 1500)", true, x.witness(0, 2, 0, 1500));
        due("witness(0, 2, 7, 7)", true, x.witness(0, 2, 7, 7));
        due("span from", 7, x.span(0, 0, 0));
        for (int k = 2; k < 150; k++) due("witness " + k, true, x.witness(0, k % 3, k, k + 1));
        due("the 151st", false, x.witness(0, 0, 0, 0));
        due("count(4)", 150, x.count(4));
    }

    private static void order() {
        promise = "10 order";
        NorthCurve x = new NorthCurve();
        for (int h = 0; h < 24; h++) x.hearth(0);
        due("order(24, 0)", false, x.order(24, 0));
        due("order(0, 24)", false, x.order(0, 24));
        due("order(-1, 0)", false, x.order(-1, 0));
        due("order(0, -1)", false, x.order(0, -1));
        due("order(3, 3)", false, x.order(3, 3));
        due("order(5, 3)", true, x.order(5, 3));
        due("told already", false, x.order(5, 3));
        due("a ring of two", false, x.order(3, 5));
        due("order(3, 1)", true, x.order(3, 1));
        due("order(1, 7)", true, x.order(1, 7));
        due("a ring of four", false, x.order(7, 5));
        due("a way twice", true, x.order(5, 7));
        due("count(5)", 4, x.count(5));
        int told = 4;
        for (int a = 8; a < 24 && told < 60; a++) {
            for (int b = a + 1; b < 24 && told < 60; b++, told++) due("order " + told, true, x.order(a, b));
        }
        due("the 61st", false, x.order(0, 1));
        due("count(5)", 60, x.count(5));
    }

    // ---- promises 11 to 15 --------------------------------------------------------------------

    private static void tape() {
        promise = "11 feed, 12 end";
        NorthCurve x = new NorthCurve();
        for (int k = 1; k <= 20; k++) due("feed " + k, 20 * k, x.feed(k, 0, -1, Integer.MIN_VALUE, Integer.MAX_VALUE));
        due("more than 400", NONE, x.feed(0, 0, 0, 0, 0));
        due("count(9)", 400, x.count(9));
        due("end(401)", NONE, x.end(401));
        due("end(-1)", NONE, x.end(-1));
        due("end(400)", 400, x.end(400));
        due("end(381)", 381, x.end(381));
        due("20 behind 381", NONE, x.feed(0, 0, 0, 0, 0));
        due("end(380)", 380, x.end(380));
        due("20 behind 380", 400, x.feed(0, 0, 0, 0, 0));
        due("end(0)", 0, x.end(0));
        due("of each number the highest first: limit 7;", 20, x.feed(0x6c696d69, 0x7420373b, 0x20202020, 0x20202020, 0x20202020));
        due("rules()", 1, x.rules());
        due("the TAPE is empty", 0, x.count(9));
        x.feed(0x6c696d69, 0x7420373b, -1, -1, -1);
        due("end(8)", 8, x.end(8));
        due("the first 8 alone", 1, x.rules());
        feed(x, "limit 1;");
        feed(x, "keep 2;");
        due("one text behind the other", 2, x.rules());
    }

    private static void rules() {
        promise = "13 rules";
        NorthCurve x = new NorthCurve();
        due("an empty text", 0, x.rules());
        due("all sorts", 10, text(x, "drop if d<1;limit 1;keep 12;base 0;doubt 0 if hearth=1;use if 1=1;skip if 1>1;window 1;need 24;strength 0;"));
        due("blanks where one likes", 2, text(x, " \n keep\n5 ;drop if(d+1)*2>3and not[s=1or 5<i];\n "));
        due("no blanks", 1, text(x, "limit9999;"));
        due("twenty", 20, text(x, "base 1;base 1;base 1;base 1;base 1;base 1;base 1;base 1;base 1;base 1;"
                + "base 1;base 1;base 1;base 1;base 1;base 1;base 1;base 1;base 1;base 1;"));
        due("a FAULT isn't told", -2, text(x, "keep;"));
        due("count(6)", 5, x.count(6));
        due("the TAPE is empty all the same", 0, x.count(9));
        StringBuilder nots = new StringBuilder("use if ");
        while (nots.length() < 391) nots.append("not ");
        due("nots", 1, text(x, nots + "1=1;"));
        due("four open", 1, text(x, "drop if [[((1))=1]];"));
        StringBuilder brackets = new StringBuilder("drop if ");
        while (brackets.length() < 300) brackets.append("[[[[d=1]]]] and ");
        due("four open, often", 1, text(x, brackets + "((((d))))<(1);"));
        for (int k = 8; k < 20; k++) due("text " + k, 1, text(x, "base " + k + ";"));
        feed(x, "base 1;");
        due("the 21st", NONE, x.rules());
        due("the TAPE stays", 7, x.count(9));
        x.hearth(0);
        x.cube(0, 0, 0, 0, 0);
        due("the last text counts", 19, x.mean(0, 3, 0));
    }

    private static void faults() {
        promise = "13 FAULTS";
        // 1: a byte or token with which no text goes on
        fault("#", -2, 0);
        fault("\t", -2, 0);
        fault("Keep 3;", -2, 0);
        fault("keeps 3;", -2, 0);
        fault(";", -2, 0);
        fault("3;", -2, 0);
        fault("if 1=1;", -2, 0);
        fault("keep", -2, 4);
        fault("keep  ", -2, 6);
        fault("keep 3", -2, 6);
        fault("keep 3 \n", -2, 8);
        fault("keep 3 4;", -2, 7);
        fault("keep x;", -2, 5);
        fault("keep (3);", -2, 5);
        fault("limit 00001;", -2, 6);
        fault("limit 12 345;", -2, 9);
        fault("keep 3;;", -2, 7);
        fault("drop d<1;", -2, 5);
        fault("drop iff d<1;", -2, 5);
        fault("drop if;", -2, 7);
        fault("drop if", -2, 7);
        fault("drop if d<1", -2, 11);
        fault("drop if d<1]", -2, 11);
        fault("drop if d<1)", -2, 11);
        fault("drop if (d<1);", -2, 10);
        fault("drop if (d;", -2, 10);
        fault("drop if [d<1;", -2, 12);
        fault("drop if [d]<1;", -2, 10);
        fault("drop if [d<1)", -2, 12);
        fault("drop if ([d<1]);", -2, 9);
        fault("drop if d<1<2;", -2, 11);
        fault("drop if d<=1;", -2, 10);
        fault("drop if d and d<1;", -2, 10);
        fault("drop if d<1 not d<1;", -2, 12);
        fault("drop if d<1 d<1;", -2, 12);
        fault("drop if d d<1;", -2, 10);
        fault("drop if d 1<1;", -2, 10);
        fault("drop if -1<d;", -2, 8);
        fault("drop if d+*1<2;", -2, 10);
        fault("drop if d<12345;", -2, 10);
        fault("drop if d/2<1;", -2, 9);
        fault("drop if d<1 and;", -2, 15);
        fault("drop if not;", -2, 11);
        fault("drop if 1=1 (", -2, 12);
        fault("doubt if 1=1;", -2, 6);
        fault("doubt 5;", -2, 7);
        fault("use 5 if 1=1;", -2, 4);
        fault("strength 5 if 1=1;", -2, 11);
        // 2: numbers
        fault("keep 0;", -3, 5);
        fault("keep 0000 x", -3, 5);
        fault("keep 13;", -3, 5);
        fault("keep 12;", 1, NONE);
        fault("keep 1;", 1, NONE);
        fault("window  0;", -3, 8);
        fault("window 9999;", 1, NONE);
        fault("need 0;", -3, 5);
        fault("need 25;", -3, 5);
        fault("need 24;", 1, NONE);
        fault("base 0;limit 0;strength 0;doubt 0 if 1=1;", 4, NONE);
        fault("keep 99999;", -2, 5);
        // 3: names
        fault("drop if wood=1;", -4, 8);
        fault("drop if not e=1;", -4, 12);
        fault("drop if [cubes=1];", -4, 9);
        fault("drop if if=1;", -4, 8);
        fault("drop if 1=and;", -4, 10);
        fault("drop if 1=not;", -4, 10);
        fault("drop if d+or<1;", -4, 10);
        fault("drop if (not d)<1;", -4, 9);
        fault("drop if dd<1;", -4, 8);
        fault("use if s=1;", -4, 7);
        fault("skip if machine=1;", -4, 8);
        fault("doubt 1 if cube=1;", -4, 11);
        fault("drop if d+i+s+machine+cube+hearth+zone=1;", 1, NONE);
        fault("use if hearth+zone+cubes+from+to+length+wood+coin+writ=1;", 1, NONE);
        // 4: too many
        String twenty = "base 1;base 1;base 1;base 1;base 1;base 1;base 1;base 1;base 1;base 1;"
            + "base 1;base 1;base 1;base 1;base 1;base 1;base 1;base 1;base 1;base 1;";
        fault(twenty + " \n", 20, NONE);
        fault(twenty + " drop", -5, 141);
        fault(twenty + ";", -2, 140);
        fault(twenty + "bases 1;", -2, 140);
        fault("drop if [[[[[d<1]]]]];", -5, 12);
        fault("drop if (((((d)))))<1;", -5, 12);
        fault("drop if [[((([d)<1;", -5, 12);
        fault("drop if 1<[[[[[", -2, 10);
        fault("drop if [[[[d<1]]]] and [[[[(d)<1]]]];", -5, 28);
        fault("drop if [[[[d<1]]]] and [[[(d)<1]]];", 1, NONE);
        fault("drop if ((((d)))) (", -2, 18);
        // the first along the text
        fault("keep 0;window 0;#", -3, 5);
        fault("drop if x<1;keep 0;", -4, 8);
    }

    private static void place() {
        promise = "14 place";
        NorthCurve x = new NorthCurve();
        text(x, "keep 0;");
        due("of a FAULT", 5, x.place());
        text(x, "keep 1;");
        due("without one", NONE, x.place());
        for (int k = 1; k < 20; k++) text(x, "");
        due("count(6)", 20, x.count(6));
        text(x, "keep 0;");
        due("rules() was NONE", NONE, x.place());
        NorthCurve y = new NorthCurve();
        text(y, "");
        due("none yet", NONE, y.place());
        text(y, "#");
        due("0", 0, y.place());
    }

    private static void day() {
        promise = "15 day";
        NorthCurve x = new NorthCurve();
        due("day(0)", 0, x.day(0));
        due("day(1000)", 1000, x.day(1000));
        due("day(1001)", NONE, x.day(1001));
        due("day(-1)", NONE, x.day(-1));
        due("day(MAX)", NONE, x.day(Integer.MAX_VALUE));
        for (int k = 2; k < 100; k++) x.day(1000);
        due("99000", 99000, x.day(0));
        due("99999", 99999, x.day(999));
        due("above 100000", NONE, x.day(2));
        due("100000", 100000, x.day(1));
        due("above", NONE, x.day(1));
        due("count(1)", 100000, x.count(1));
    }

    // ---- promises 16 to 20 --------------------------------------------------------------------

    private static void dropped() {
        promise = "16 dropped";
        NorthCurve x = new NorthCurve();
        x.hearth(4);
        x.cube(0, 2, 10, 20, 30);
        due("LEFT", 0, x.dropped(0, 0, 0));
        due("no such cube", NONE, x.dropped(0, 1, 0));
        due("no such cube", NONE, x.dropped(0, -1, 0));
        due("no such hearth", NONE, x.dropped(1, 0, 0));
        due("no such day", NONE, x.dropped(0, 0, 1));
        due("no such day", NONE, x.dropped(0, 0, -1));
        x.day(1);
        x.cube(0, 0, 0, 0, 0);
        due("not told by then", NONE, x.dropped(0, 1, 0));
        due("told", 0, x.dropped(0, 1, 1));
        text(x, "drop if s>30;drop if d=10 and i=20 and s=30 and machine=2 and cube=0 and hearth=0 and zone=4;");
        due("some drop holds", 1, x.dropped(0, 0, 1));
        due("none holds", 0, x.dropped(0, 1, 1));
        due("no RULES by then", 0, x.dropped(0, 0, 0));
        x.tilt(0, 1, 0);
        due("as PUT RIGHT", 0, x.dropped(0, 0, 1));
        text(x, "drop if d=11 and cube<1;");
        due("as PUT RIGHT", 1, x.dropped(0, 0, 1));
    }

    private static void droppedTooFar() {
        promise = "16 dropped as too far";
        NorthCurve x = new NorthCurve();
        x.hearth(0);
        int[] d = {0, 0, 0, 100, -100, 4};
        for (int v : d) x.cube(0, 0, v, 0, 0);
        due("limit 9999", 0, x.dropped(0, 3, 0));
        // the middle is 4 of 6, so 0: both 100 and -100 lie as far; the first goes
        text(x, "limit 99;keep 5;");
        due("of like ones the first", 2, x.dropped(0, 3, 0));
        due("no more than keep are left", 0, x.dropped(0, 4, 0));
        // then the middle is -96 by 5, down: -20; -100 is 80 from it
        text(x, "limit 80;keep 4;");
        due("80 isn't further than 80", 0, x.dropped(0, 4, 0));
        text(x, "limit 79;keep 4;");
        due("80 is further than 79", 2, x.dropped(0, 4, 0));
        due("cubes left", 4, x.mean(0, 4, 0));
        text(x, "limit 0;keep 1;");
        // 0, 0, 0, 4 are left: the middle 1, then 4 is furthest; then none
        due("4 goes", 2, x.dropped(0, 5, 0));
        due("the last of keep 1", 3, x.mean(0, 4, 0));
        text(x, "drop if d<0;limit 0;keep 5;");
        due("a dropped one is no more among them", 1, x.dropped(0, 4, 0));
        due("five are not more than five", 5, x.mean(0, 4, 0));
        NorthCurve y = new NorthCurve();
        y.hearth(0);
        y.cube(0, 0, 0, 40, 0);
        y.cube(0, 0, 30, 30, 0);
        y.cube(0, 0, 0, 0, 0);
        y.cube(0, 0, 0, 0, 0);
        text(y, "limit 35;");
        // middle 7, 17: 7 + 23, 23 + 13, 24, 24: D and I together
        due("D and I together", 2, y.dropped(0, 1, 0));
        due("the other one", 0, y.dropped(0, 0, 0));
    }

    private static void sums() {
        promise = "13 COND";
        holds("d=3", true);
        holds("d<3", false);
        holds("d>3", false);
        holds("i<0", true);
        holds("i=0-4", true);
        holds("d+i*s=0-17", true);
        holds("(d+i)*s=0-5", true);
        holds("10-4-3=3", true);
        holds("10-(4-3)=9", true);
        holds("2*3+4*5=26", true);
        holds("0005=s", true);
        holds("machine=1 and zone=2 and hearth=0 and cube=0", true);
        holds("1=1 or 1=1 and 1=2", true);
        holds("[1=1 or 1=1] and 1=2", false);
        holds("not 1=2 and 1=1", true);
        holds("not 1=1 or 1=1", true);
        holds("not [1=1 or 1=1]", false);
        holds("not not 1=1", true);
        holds("not not not 1=1", false);
        holds("1=2 and 1=2 or 1=1", true);
        holds("9999*9999=9998*(9999+1)+1", true);
        holds("9999*9999*9999=9999*9999*9998", true);
        holds("9999*9999*9999=1000*1000*1000", true);
        holds("9999*9999*9999-1=1000*1000*(1000-1)+999*1000+999", true);
        holds("9999*9999*9999-1+1=9999*9999*9999", true);
        holds("9999*9999*11-9999*9999*11=0", true);
        holds("9999*9999*11+1-9999*9999*11=0", true);
        holds("(0-9999)*9999*9999+9999*9999*9999=0", true);
        holds("(0-9999)*9999*9999-5+5=5-9999*9999*9999", true);
        holds("(0-9999)*9999*9999-5=0-9999*9999*9999", true);
        holds("9999*9999*9999+9999*9999*9999-9999*9999*9999=0", true);
    }

    private static void right() {
        promise = "17 right";
        NorthCurve x = new NorthCurve();
        x.hearth(0);
        x.cube(0, 1, 100, 200, 300);
        x.cube(0, 0, 100, 200, 301);
        x.twice(0, 3, 0, 0);
        x.twice(1, 3, 7, -9);
        x.tilt(0, 20, 30);
        due("D less BIAS and TILT more", 113, x.right(0, 0, 0, 0));
        due("I", 239, x.right(0, 0, 1, 0));
        due("S as it is", 300, x.right(0, 0, 2, 0));
        due("machine 0", 120, x.right(0, 1, 0, 0));
        due("S of the second", 301, x.right(0, 1, 2, 0));
        due("what 3", LOST, x.right(0, 0, 3, 0));
        due("what -1", LOST, x.right(0, 0, -1, 0));
        due("no such cube", LOST, x.right(0, 2, 0, 0));
        due("no such cube", LOST, x.right(0, -1, 0, 0));
        due("no such hearth", LOST, x.right(1, 0, 0, 0));
        due("no such day", LOST, x.right(0, 0, 0, 1));
        x.day(1);
        x.cube(0, 0, 1, 1, 1);
        x.twice(1, 3, 0, 0);
        due("not told by then", LOST, x.right(0, 2, 0, 0));
        due("told", 21, x.right(0, 2, 0, 1));
        due("BIAS by DAY 0", 113, x.right(0, 0, 0, 0));
        due("BIAS by DAY 1", 120, x.right(0, 0, 0, 1));
        text(x, "drop if 1=1;");
        due("of a DROPPED one too", 120, x.right(0, 0, 0, 1));
    }

    private static void mean() {
        promise = "18 mean";
        NorthCurve x = new NorthCurve();
        x.hearth(0);
        due("without a cube", LOST, x.mean(0, 4, 0));
        x.cube(0, 0, -1, 3, 5);
        x.cube(0, 0, -2, 4, 6);
        due("D down", -2, x.mean(0, 0, 0));
        due("I down", 3, x.mean(0, 1, 0));
        due("S down", 5, x.mean(0, 2, 0));
        // 1 + 0 and 0 + 1: 2 by 2
        due("CONE", 11, x.mean(0, 3, 0));
        due("LEFT", 2, x.mean(0, 4, 0));
        x.zone(0, 7, -8);
        due("TURN more", 5, x.mean(0, 0, 0));
        due("TURN more", -5, x.mean(0, 1, 0));
        due("S has none", 5, x.mean(0, 2, 0));
        due("CONE has none", 11, x.mean(0, 3, 0));
        due("what 5", LOST, x.mean(0, 5, 0));
        due("what -1", LOST, x.mean(0, -1, 0));
        due("hearth 1", LOST, x.mean(1, 0, 0));
        due("hearth -1", LOST, x.mean(-1, 0, 0));
        due("day 1", LOST, x.mean(0, 0, 1));
        due("day -1", LOST, x.mean(0, 0, -1));
        x.day(4);
        x.cube(0, 0, 300, 3, 5);
        due("by DAY 3", 2, x.mean(0, 4, 3));
        due("by DAY 4", 3, x.mean(0, 4, 4));
        // 297 by 3 is 99, I 10 by 3 is 3; 100, 101 + 1, 201: 403 by 3
        due("CONE by DAY 4", 144, x.mean(0, 3, 4));
        text(x, "base 0;");
        due("base 0", 134, x.mean(0, 3, 4));
        due("base of DAY 3", 11, x.mean(0, 3, 3));
        text(x, "base 5;base 7;");
        due("the last told in the text", 141, x.mean(0, 3, 4));
        text(x, "drop if d<0;");
        due("one is LEFT", 1, x.mean(0, 4, 4));
        due("its D", 307, x.mean(0, 0, 4));
        due("its CONE", 10, x.mean(0, 3, 4));
        text(x, "drop if 1=1;");
        due("none is LEFT", LOST, x.mean(0, 4, 4));
        due("none is LEFT", LOST, x.mean(0, 0, 4));
    }

    private static void doubt() {
        promise = "18 doubt";
        NorthCurve x = new NorthCurve();
        x.hearth(0);
        x.hearth(3);
        x.cube(1, 0, 5, 5, 5);
        x.cube(1, 0, 5, 5, 7);
        text(x, "base 1;doubt 10 if zone=3;doubt 20 if hearth=1;doubt 40 if cubes=2;doubt 80 if from=0 and to=1500 and length=1500;"
            + "doubt 160 if wood+coin+writ=0;doubt 320 if 1=2;");
        due("all that hold", 311, x.mean(1, 3, 0));
        x.witness(1, 0, 100, 900);
        due("wood", 71, x.mean(1, 3, 0));
        x.day(1);
        text(x, "base 0;doubt 1 if wood=1;doubt 2 if coin=1;doubt 4 if writ=1;doubt 8 if from=100;doubt 16 if to=900;doubt 32 if length=800;"
            + "doubt 64 if length<0;doubt 128 if cubes<2;");
        due("wood", 57, x.mean(1, 3, 1));
        x.witness(1, 1, 950, 960);
        due("coin: length is below 0", 83, x.mean(1, 3, 1));
        x.witness(1, 2, 0, 1500);
        due("writ", 87, x.mean(1, 3, 1));
        text(x, "base 0;drop if s=7;doubt 128 if cubes<2;");
        due("cubes are how many are LEFT", 128, x.mean(1, 3, 1));
    }

    private static void span() {
        promise = "19 span";
        NorthCurve x = new NorthCurve();
        x.hearth(0);
        due("from", 0, x.span(0, 0, 0));
        due("to", 1500, x.span(0, 1, 0));
        x.witness(0, 1, 300, 310);
        due("of coin the first counts", 300, x.span(0, 0, 0));
        due("its last one doesn't", 1500, x.span(0, 1, 0));
        x.witness(0, 0, 200, 900);
        due("from", 300, x.span(0, 0, 0));
        due("to", 900, x.span(0, 1, 0));
        x.witness(0, 2, 350, 1000);
        due("from", 350, x.span(0, 0, 0));
        due("to", 900, x.span(0, 1, 0));
        x.day(1);
        x.witness(0, 2, 100, 250);
        due("of each sort the last: from", 300, x.span(0, 0, 1));
        due("to", 250, x.span(0, 1, 1));
        due("by DAY 0", 900, x.span(0, 1, 0));
        due("what 2", NONE, x.span(0, 2, 0));
        due("what -1", NONE, x.span(0, -1, 0));
        due("hearth 1", NONE, x.span(1, 0, 0));
        due("day 2", NONE, x.span(0, 0, 2));
        due("day -1", NONE, x.span(0, 0, -1));
    }

    private static void dated() {
        promise = "20 dated";
        NorthCurve x = new NorthCurve();
        x.hearth(0);
        due("no MEAN", 0, x.dated(0, 0));
        x.witness(0, 0, 5, 5);
        due("no MEAN", 0, x.dated(0, 0));
        x.cube(0, 0, 0, 0, 0);
        due("wood", 1, x.dated(0, 0));
        x.witness(0, 2, 6, 6);
        due("QUARREL", 2, x.dated(0, 0));
        due("hearth 1", NONE, x.dated(1, 0));
        due("day 1", NONE, x.dated(0, 1));
        due("day -1", NONE, x.dated(0, -1));
        x.hearth(0);
        x.cube(1, 0, 0, 0, 0);
        due("no witness", 0, x.dated(1, 0));
        x.witness(1, 1, 5, 5);
        due("coin alone", 0, x.dated(1, 0));
        x.day(1);
        x.witness(1, 2, 5, 5);
        due("writ", 1, x.dated(1, 1));
        due("by DAY 0", 0, x.dated(1, 0));
        x.hearth(0);
        x.witness(2, 0, 5, 5);
        x.witness(2, 1, 6, 6);
        due("a QUARREL without a MEAN", 2, x.dated(2, 1));
        x.witness(2, 1, 5, 6);
        due("from not above to", 0, x.dated(2, 1));
    }

    private static void useAndSkip() {
        promise = "20 use and skip";
        NorthCurve x = new NorthCurve();
        datedAt(x, 0, 0, 0, 5, 5);
        datedAt(x, 0, 0, 0, 50, 50);
        text(x, "skip if from=5;");
        due("skipped", 0, x.dated(0, 0));
        due("not skipped", 1, x.dated(1, 0));
        text(x, "skip if from=5;use if hearth=0;");
        due("the last that holds", 1, x.dated(0, 0));
        text(x, "use if hearth=0;skip if from=5;use if hearth=1;");
        due("the last that holds", 0, x.dated(0, 0));
        due("the last that holds", 1, x.dated(1, 0));
        text(x, "use if hearth=0;");
        due("use asks nothing of others", 1, x.dated(1, 0));
        text(x, "skip if wood=1 and cubes=1 and length=0 and to=50;");
        due("skipped", 0, x.dated(1, 0));
        due("an edition without it", 0, x.edition());
        due("uses 0", 1, x.uses(0, 0));
        due("uses 1", 0, x.uses(0, 1));
    }

    // ---- promises 21 to 25 --------------------------------------------------------------------

    private static void edition() {
        promise = "21 edition";
        NorthCurve x = new NorthCurve();
        due("nothing is DATED", NONE, x.edition());
        datedAt(x, 0, 0, 0, 100, 100);
        for (int e = 0; e < 12; e++) due("edition " + e, e, x.edition());
        due("the 13th", NONE, x.edition());
        due("count(7)", 12, x.count(7));
        NorthCurve y = slope();
        y.edition();
        y.zone(0, 50, 50);
        y.cube(0, 0, 500, 500, 500);
        y.witness(0, 0, 900, 900);
        text(y, "window 1;need 5;strength 1;");
        due("it keeps D", 0, y.curve(0, 100, 0));
        due("it keeps HALF", 10, y.curve(0, 100, 3));
        due("it keeps window", 0, y.curve(0, 25, 0));
        due("the next", 1, y.edition());
        due("it has its need", LOST, y.curve(1, 200, 0));
    }

    private static void curve() {
        promise = "22 curve";
        NorthCurve x = slope();
        x.edition();
        due("D", 0, x.curve(0, 100, 0));
        due("I", 600, x.curve(0, 100, 1));
        due("S", 100, x.curve(0, 100, 2));
        due("HALF", 10, x.curve(0, 100, 3));
        // at 125 weights 75 * 50 and 25 * 50: D 25; HALF: (75 * (10 + 25) + 25 * (10 + 75)) by 100
        due("D at 125", 25, x.curve(0, 125, 0));
        due("HALF at 125", 47, x.curve(0, 125, 3));
        due("HALF at 124, straight: 10 + 37 * 24 by 25", 45, x.curve(0, 124, 3));
        due("D at 101", 1, x.curve(0, 101, 0));
        due("D at 24: 0 isn't TOLD", LOST, x.curve(0, 24, 0));
        due("D at 25", 0, x.curve(0, 25, 0));
        due("D at 275", 100, x.curve(0, 275, 0));
        due("D at 276", LOST, x.curve(0, 276, 0));
        due("D at 1500", LOST, x.curve(0, 1500, 0));
        due("year -1", LOST, x.curve(0, -1, 0));
        due("year 1501", LOST, x.curve(0, 1501, 0));
        due("what 4", LOST, x.curve(0, 100, 4));
        due("what -1", LOST, x.curve(0, 100, -1));
        due("edition 1", LOST, x.curve(1, 100, 0));
        due("edition -1", LOST, x.curve(-1, 100, 0));
        NorthCurve y = new NorthCurve();
        datedAt(y, 0, -7, 0, 0, 0);
        datedAt(y, -10, -7, 0, 1500, 1500);
        text(y, "window 2000;");
        y.edition();
        // at 25 weights 1975 * 50 and 525 * 50: D -5250 by 2500, down: -3
        due("down", -3, y.curve(0, 25, 0));
        due("the first KNOT: -5000 by 2500", -2, y.curve(0, 0, 0));
        due("between them down", -3, y.curve(0, 1, 0));
        due("the last KNOT", -8, y.curve(0, 1500, 0));
        due("I", -7, y.curve(0, 777, 1));
    }

    private static void weights() {
        promise = "22 WEIGHT";
        NorthCurve x = new NorthCurve();
        datedAt(x, 0, 0, 0, 100, 100);
        datedAt(x, 90, 0, 0, 40, 143);
        text(x, "base 0;window 26;");
        x.edition();
        // at 100: 26000 by 10, and 26000 by (10 + 25): 2600 and 742: D 66780 by 3342
        due("a fourth of its length, down", 19, x.curve(0, 100, 0));
        // at 125 the first has 1000 by 10, the second 742 still
        due("one YEAR inside the window", 79, x.curve(0, 125, 0));
        due("25 YEARS ahead of 40: at 25 there are 15", 90, x.curve(0, 25, 0));
        due("at 0 there are 40", LOST, x.curve(0, 0, 0));
        due("at 150 there are 7", 90, x.curve(0, 150, 0));
        due("at 175 there are 32", LOST, x.curve(0, 175, 0));
        NorthCurve y = new NorthCurve();
        datedAt(y, 0, 0, 0, 100, 100);
        text(y, "base 990;window 1;");
        y.edition();
        due("a WEIGHT of 1", 0, y.curve(0, 100, 0));
        text(y, "base 991;window 1;");
        y.edition();
        due("a WEIGHT of 0", LOST, y.curve(1, 100, 0));
        due("nothing is TOLD", LOST, y.curve(1, 125, 0));
        NorthCurve z = slope();
        text(z, "need 2;");
        z.edition();
        due("need 2 at 100: 200 is 100 away", LOST, z.curve(0, 100, 0));
        due("need 2 at 125", 25, z.curve(0, 125, 0));
        due("need 2 at 175", 75, z.curve(0, 175, 0));
        due("need 2 at 200", LOST, z.curve(0, 200, 0));
    }

    private static void without() {
        promise = "23 without";
        NorthCurve x = slope();
        hearthAt(x, 1, 1, 1);
        x.edition();
        due("without 0 at 200", 100, x.without(0, 0, 200, 0));
        due("without 0 at 150", 100, x.without(0, 0, 150, 0));
        due("without 0 at 150", 10, x.without(0, 0, 150, 3));
        due("without 0 at 100", LOST, x.without(0, 0, 100, 0));
        due("without 1 at 100", 100, x.without(0, 1, 100, 2));
        due("without 2, which isn't of it", LOST, x.without(0, 2, 200, 0));
        due("hearth 3", LOST, x.without(0, 3, 200, 0));
        due("hearth -1", LOST, x.without(0, -1, 200, 0));
        due("edition 1", LOST, x.without(1, 0, 200, 0));
        due("year 1501", LOST, x.without(0, 0, 1501, 0));
        due("year -1", LOST, x.without(0, 0, -1, 0));
        due("what 4", LOST, x.without(0, 0, 200, 4));
        due("what -1", LOST, x.without(0, 0, 200, -1));
        due("the EDITION stays", 50, x.curve(0, 150, 0));
    }

    private static void uses() {
        promise = "24 uses";
        NorthCurve x = slope();
        hearthAt(x, 1, 1, 1);
        x.edition();
        due("0", 1, x.uses(0, 0));
        due("1", 1, x.uses(0, 1));
        due("2", 0, x.uses(0, 2));
        due("3", NONE, x.uses(0, 3));
        due("-1", NONE, x.uses(0, -1));
        due("edition 1", NONE, x.uses(1, 0));
        due("edition -1", NONE, x.uses(-1, 0));
        datedAt(x, 0, 0, 0, 5, 5);
        due("a later one", 0, x.uses(0, 3));
        x.edition();
        due("of the next one", 1, x.uses(1, 3));
    }

    private static void changed() {
        promise = "25 changed";
        NorthCurve x = slope();
        x.edition();
        x.edition();
        due("alike", 0, x.changed(0, 1));
        due("itself", 0, x.changed(1, 1));
        datedAt(x, 0, 0, 0, 1000, 1000);
        x.edition();
        due("TOLD from 925 to 1075", 7, x.changed(0, 2));
        due("TOLD from 925 to 1075", 7, x.changed(2, 0));
        due("edition 3", NONE, x.changed(0, 3));
        due("edition -1", NONE, x.changed(-1, 0));
        NorthCurve y = new NorthCurve();
        datedAt(y, 10, 20, 30, 1000, 1000);
        y.edition();
        text(y, "base 11;");
        y.edition();
        due("HALF", 7, y.changed(0, 1));
        text(y, "");
        y.cube(0, 0, 10, 20, 31);
        y.cube(0, 0, 10, 20, 32);
        y.edition();
        due("S", 7, y.changed(0, 2));
        NorthCurve z = new NorthCurve();
        datedAt(z, 0, 0, 0, 1000, 1000);
        text(z, "base 0;");
        z.edition();
        text(z, "base 0;window 101;");
        z.edition();
        due("TOLD alone, with all 0: 900 and 1100", 2, z.changed(0, 1));
        due("TOLD", 0, z.curve(1, 900, 0));
    }

    // ---- promises 26 to 28 --------------------------------------------------------------------

    private static void date() {
        promise = "26 date";
        NorthCurve x = slope();
        hearthAt(x, 50, 600, 150);
        x.hearth(0);
        x.edition();
        due("one PIECE", 1, x.date(2, 0, false));
        due("one of the EDITION, without it", 0, x.date(0, 0, false));
        due("no MEAN", NONE, x.date(3, 0, false));
        due("no MEAN", NONE, x.date(3, 0, true));
        due("hearth 4", NONE, x.date(4, 0, false));
        due("hearth -1", NONE, x.date(-1, 0, true));
        due("edition 1", NONE, x.date(2, 1, false));
        due("edition -1", NONE, x.date(2, -1, true));
        hearthAt(x, 50, 700, 150);
        due("I is too far", 0, x.date(4, 0, false));
        NorthCurve y = flat(0);
        due("D and I at CONE and HALF together", 1, y.date(hearthAt(y, 20, -20, 0), 0, false));
        due("of a WEIGHT of 1 each", 1000, piece(y, 1, 0, false, 0, 2));
        due("ON THE SITE", 1500, piece(y, 1, 0, true, 0, 1));
        due("D further", 0, y.date(hearthAt(y, 21, 0, 0), 0, false));
        due("D further below", 0, y.date(hearthAt(y, -21, 0, 0), 0, false));
        due("I further", 0, y.date(hearthAt(y, 0, 21, 0), 0, false));
        due("I further below", 0, y.date(hearthAt(y, 0, -21, 0), 0, false));
        // two ways through D 50: up from 100 to 200 and down again to 300
        datedAt(x, 0, 600, 100, 300, 300);
        x.edition();
        due("two PIECES", 2, x.date(2, 1, false));
    }

    private static void piece() {
        promise = "27 piece";
        NorthCurve x = slope();
        hearthAt(x, 50, 600, 150);
        x.edition();
        // D is the YEAR less 100; HALF 10 at 100, 47 at 125: at 113 29 (37 from 50: 13), at 112 27 (38)
        due("first", 113, piece(x, 2, 0, false, 0, 0));
        due("last", 187, piece(x, 2, 0, false, 0, 1));
        due("parts", 1000, piece(x, 2, 0, false, 0, 2));
        noPiece(x, 2, 0, false, 1, 0);
        noPiece(x, 2, 0, false, -1, 0);
        noPiece(x, 2, 0, false, 0, 3);
        noPiece(x, 2, 0, false, 0, -1);
        noPiece(x, 3, 0, false, 0, 0);
        noPiece(x, -1, 0, true, 0, 0);
        noPiece(x, 2, 1, false, 0, 0);
        noPiece(x, 2, -1, true, 0, 0);
        noPiece(x, 0, 0, false, 0, 0);
        x.hearth(0);
        noPiece(x, 3, 0, true, 0, 0);
        NorthCurve y = slope();
        hearthAt(y, 50, 600, 150);
        text(y, "strength 10;");
        y.edition();
        due("strength: S from 140 on", 140, piece(y, 2, 0, false, 0, 0));
        due("to 160", 160, piece(y, 2, 0, false, 0, 1));
        text(y, "strength 0;");
        due("as the EDITION has it", 140, piece(y, 2, 0, false, 0, 0));
        y.edition();
        due("strength 0", 150, piece(y, 2, 1, false, 0, 0));
        due("strength 0", 150, piece(y, 2, 1, false, 0, 1));
        y.cube(2, 0, 150, 600, 150);
        y.cube(2, 0, 150, 600, 150);
        due("MEAN as known now: D 116, CONE 54", 1, y.date(2, 1, true));
    }

    private static void parts() {
        promise = "27 parts of a thousand";
        NorthCurve x = new NorthCurve();
        datedAt(x, 0, 0, 0, 100, 100);
        datedAt(x, 0, 0, 0, 1100, 1100);
        datedAt(x, 50, 0, 0, 1125, 1125);
        text(x, "window 20;");
        x.edition();
        // the KNOTS 100, 1100, 1125 are TOLD: YEARS 100 and 1100 to 1125
        hearthAt(x, 0, 0, 0);
        due("two PIECES", 2, x.date(3, 0, false));
        due("the first", 100, piece(x, 3, 0, false, 0, 0));
        due("the first", 100, piece(x, 3, 0, false, 0, 1));
        due("the second", 1100, piece(x, 3, 0, false, 1, 0));
        // D 2 * (YEAR less 1100), HALF 10, CONE 10: up to 20, so to the YEAR 1110
        due("the second", 1110, piece(x, 3, 0, false, 1, 1));
        // 1 + 20 + 20 = 41 at 100; 41 + 39 + .. + 21 = 11 * 31 = 341 behind: 41000 by 382
        due("parts", 107, piece(x, 3, 0, false, 0, 2));
        due("parts", 892, piece(x, 3, 0, false, 1, 2));
        due("a hearth of it has none of its own", 1, x.date(0, 0, false));
        due("its date by the others", 1100, piece(x, 0, 0, false, 0, 0));
    }

    private static void onSite() {
        promise = "27 ON THE SITE";
        NorthCurve x = flat(4);
        due("all YEARS", 0, piece(x, 1, 0, true, 0, 0));
        due("all YEARS", 1500, piece(x, 1, 0, true, 0, 1));
        x.witness(1, 1, 500, 600);
        due("coin", 500, piece(x, 1, 0, true, 0, 0));
        due("coin without ORDER", 0, piece(x, 1, 0, false, 0, 0));
        x.witness(2, 0, 600, 700);
        due("wood cuts nothing", 0, piece(x, 2, 0, true, 0, 0));
        due("order(2, 3)", true, x.order(2, 3));
        due("order(1, 2)", true, x.order(1, 2));
        due("behind", 501, piece(x, 2, 0, true, 0, 0));
        due("behind", 1499, piece(x, 2, 0, true, 0, 1));
        due("again till nothing changes", 502, piece(x, 3, 0, true, 0, 0));
        due("the last", 1500, piece(x, 3, 0, true, 0, 1));
        due("ahead", 500, piece(x, 1, 0, true, 0, 0));
        due("ahead", 1498, piece(x, 1, 0, true, 0, 1));
        due("no ORDER", 1500, piece(x, 4, 0, true, 0, 1));
        due("parts of what is left", 1000, piece(x, 3, 0, true, 0, 2));
        // one that has no YEARS cuts nothing
        x.hearth(0);
        x.order(5, 4);
        hearthAt(x, 900, 0, 0);
        x.order(6, 4);
        due("no MEAN", 0, piece(x, 4, 0, true, 0, 0));
        // the EDITION's own hearth has no YEARS without it
        x.order(0, 4);
        due("none of the others", 0, piece(x, 4, 0, true, 0, 0));
        due("quarrels", 0, x.quarrels(0));
        // a hearth that is emptied by its coin cuts nothing
        NorthCurve y = flat(3);
        y.witness(1, 1, 1500, 1500);
        y.order(1, 2);
        due("1500 has no YEAR behind it", 0, y.date(2, 0, true));
        due("one without YEARS doesn't cut 1", 1, y.date(1, 0, true));
        due("1", 1500, piece(y, 1, 0, true, 0, 0));
        y.order(2, 3);
        due("nor 3", 0, piece(y, 3, 0, true, 0, 0));
        due("quarrels", 1, y.quarrels(0));
        // ORDER by ORDER as told: here 2 cuts 3 before it is emptied
        NorthCurve z = flat(3);
        z.witness(1, 1, 1500, 1500);
        z.order(2, 3);
        z.order(1, 2);
        due("2 has cut 3", 1, piece(z, 3, 0, true, 0, 0));
    }

    private static void quarrels() {
        promise = "28 quarrels";
        NorthCurve x = flat(3);
        due("none", 0, x.quarrels(0));
        due("edition 1", NONE, x.quarrels(1));
        due("edition -1", NONE, x.quarrels(-1));
        hearthAt(x, 900, 0, 0);
        x.witness(4, 1, 5, 5);
        due("one that never had YEARS isn't counted", 0, x.quarrels(0));
        x.witness(1, 1, 1500, 1500);
        x.order(1, 2);
        due("2", 1, x.quarrels(0));
        x.order(1, 3);
        due("2 and 3", 2, x.quarrels(0));
        NorthCurve z = flat(23);
        z.witness(23, 1, 1500, 1500);
        z.order(23, 22);
        z.order(21, 23);
        due("22 alone", 1, z.quarrels(0));
        z.witness(22, 1, 1500, 1500);
        z.order(22, 23);
        due("a ring isn't told", 1, z.quarrels(0));
        z.cost(23, 1);
        text(z, "base 0;");
        due("the last HEARTH may be chosen", 1 << 23, z.choose(0, 9, 1));
        NorthCurve v = flat(23);
        v.witness(22, 1, 1500, 1500);
        v.order(22, 23);
        due("23 alone", 1, v.quarrels(0));
        NorthCurve y = slope();
        hearthAt(y, 50, 600, 150);
        y.edition();
        y.witness(2, 1, 188, 188);
        due("by its coin", 1, y.quarrels(0));
        y.witness(2, 1, 187, 188);
        due("one YEAR is left", 0, y.quarrels(0));
    }

    // ---- promises 29 to 34 --------------------------------------------------------------------

    private static void test() {
        promise = "29 test";
        NorthCurve x = slope();
        datedAt(x, 50, 600, 150, 150, 150);
        x.edition();
        due("tried: 2 alone", 1, x.test(0, 0));
        due("right", 1, x.test(0, 1));
        due("what 2", NONE, x.test(0, 2));
        due("what -1", NONE, x.test(0, -1));
        due("edition 1", NONE, x.test(1, 0));
        due("edition -1", NONE, x.test(-1, 0));
        x.witness(2, 0, 1000, 1000);
        due("SPAN as the EDITION has it", 1, x.test(0, 1));
        x.edition();
        due("tried", 1, x.test(1, 0));
        due("not right", 0, x.test(1, 1));
        x.witness(2, 0, 187, 500);
        x.edition();
        due("right by one YEAR", 1, x.test(2, 1));
        x.witness(2, 0, 188, 500);
        x.edition();
        due("not right by one YEAR", 0, x.test(3, 1));
        text(x, "drop if hearth=2;");
        due("no MEAN now: not tried", 0, x.test(0, 0));
        NorthCurve y = flat(0);
        datedAt(y, 20, 20, 0, 1500, 1500);
        text(y, "window 9999;skip if cubes=2;");
        y.edition();
        due("both", 2, y.test(1, 0));
        due("right in 1500 alone, with a WEIGHT of 1", 2, y.test(1, 1));
    }

    private static void choose() {
        promise = "30 choose";
        NorthCurve x = new NorthCurve();
        datedAt(x, 0, 0, 0, 100, 100);
        datedAt(x, 60, 0, 0, 110, 110);
        text(x, "window 120;");
        x.edition();
        due("nobody", 0, x.choose(0, 9999, 0));
        due("nobody", 0, x.choose(0, 9999, 1));
        int h = hearthAt(x, 30, 0, 0);
        due("no COST", 0, x.choose(0, 9999, 1));
        x.cost(h, 7);
        int gain = x.choose(0, 7, 0);
        due("it is worth something", true, gain > 0);
        due("its bit", 4, x.choose(0, 7, 1));
        due("above the sum", 0, x.choose(0, 6, 0));
        due("above the sum", 0, x.choose(0, 6, 1));
        due("sum 0", 0, x.choose(0, 0, 1));
        due("sum 9999", gain, x.choose(0, 9999, 0));
        due("sum 10000", LOST, x.choose(0, 10000, 0));
        due("sum -1", LOST, x.choose(0, -1, 0));
        due("what 2", LOST, x.choose(0, 5, 2));
        due("what -1", LOST, x.choose(0, 5, -1));
        due("edition 1", LOST, x.choose(1, 5, 0));
        due("edition -1", LOST, x.choose(-1, 5, 0));
        x.cost(1, 1);
        due("one of the EDITION is no choice", 4, x.choose(0, 9999, 1));
        // newly TOLD KNOTS: a flat curve at 100 and 1000, a lone KNOT each, need 1
        NorthCurve y = new NorthCurve();
        datedAt(y, 0, 0, 0, 500, 500);
        text(y, "window 20;");
        y.edition();
        hearthAt(y, 0, 0, 0);
        y.cost(1, 5);
        text(y, "base 30;");
        // its DATE is 500 alone, SPAN 480 to 520: 475 and 525 are 5 away, so TOLD then;
        // at 500 weights 20000 by 20 and 20000 by (10 + 30 + 10): HALF (1000 * 10 + 400 * 30) by 1400 = 15, was 10
        due("200 less 5", 195, y.choose(0, 5, 0));
        due("bits", 2, y.choose(0, 5, 1));
        text(y, "base 300;");
        // weight 62: HALF (10000 + 18600) by 1062 = 26
        due("200 less 16", 184, y.choose(0, 5, 0));
        // within 0 and 1500
        NorthCurve z = new NorthCurve();
        datedAt(z, 0, 0, 0, 0, 0);
        text(z, "window 6;");
        z.edition();
        hearthAt(z, 0, 0, 0);
        z.cost(1, 5);
        // SPAN 0 to 20, length 20: 25 is 5 away
        due("25 is TOLD then", 100, z.choose(0, 5, 0));
        text(z, "base 5;");
        // at 0: 6000 by 20 is 300; 6000 by (10 + 5 + 5) is 300: HALF (10 + 5) by 2, was 10
        due("and HALF is 7 at 0", 103, z.choose(0, 5, 0));
        text(z, "base 300;");
        // at 0: 6000 by (10 + 300 + 5) is 19: HALF (300 * 10 + 19 * 300) by 319 is 27
        due("SPAN from 0 on", 83, z.choose(0, 5, 0));
        text(y, "base 9000;");
        // at 475 and 525: 15000 by 9020 is 1; at 500: 20000 by 9020 is 2, HALF (10000 + 18000) by 1002 is 27
        due("a WEIGHT of 1 makes a KNOT TOLD", 183, y.choose(0, 5, 0));
        y.cost(1, 1);
        due("COST 1", 2, y.choose(0, 1, 1));
        due("COST 1", 0, y.choose(0, 0, 1));
        heaviest();
    }

    /** Of like PIECES the first counts: a KNOT at 100 and one at 1100, the hearth is as far from both. */
    private static void heaviest() {
        NorthCurve x = new NorthCurve();
        datedAt(x, 0, 0, 0, 100, 100);
        datedAt(x, 0, 8, 0, 1100, 1100);
        text(x, "window 20;");
        x.edition();
        hearthAt(x, 0, 4, 0);
        x.cost(2, 1);
        // its SPAN is 80 to 120, so 75 and 125 are TOLD then; at 100 weights 1000 and 666: I 1, HALF 19658 by 1666 is 11
        due("75 and 125", 199, x.choose(0, 1, 0));
        x.tilt(2, 0, 1);
        // SPAN 1080 to 1120: 1075 and 1125; at 1100 I is (8000 + 3330) by 1666, so 6: (12000 + 666 * 11) by 1666 is 11
        due("I 5: by the first EDITION the second is heavier", 199, x.choose(0, 1, 0));
    }

    private static void chooseAmongTen() {
        promise = "30 choose among ten";
        NorthCurve x = new NorthCurve();
        datedAt(x, 0, 0, 0, 500, 500);
        text(x, "window 20;");
        x.edition();
        // all alike: each alone makes 475 and 525 TOLD; more of them change nothing but HALF, which stays
        for (int h = 1; h <= 12; h++) {
            hearthAt(x, 0, 0, 0);
            x.cost(h, 10);
        }
        due("GAIN", 200, x.choose(0, 9999, 0));
        due("the least as bits", 2, x.choose(0, 9999, 1));
        x.cost(1, 100);
        due("what the sum allows", 4, x.choose(0, 99, 1));
        due("the least as bits", 2, x.choose(0, 100, 1));
        // with need 3 it takes two more where one is, three where none is
        NorthCurve y = new NorthCurve();
        datedAt(y, 0, 0, 0, 500, 500);
        datedAt(y, 0, 0, 0, 500, 500);
        datedAt(y, 0, 0, 0, 500, 500);
        text(y, "window 20;need 3;");
        y.edition();
        for (int h = 3; h <= 14; h++) {
            hearthAt(y, 0, 0, 0);
            y.cost(h, 10);
        }
        due("three make 475 and 525", 200, y.choose(0, 30, 0));
        due("the first three", 56, y.choose(0, 30, 1));
        due("two make nothing", 0, y.choose(0, 29, 0));
        text(y, "base 9000;");
        // WEIGHTS of 1 at 475 and 525; at 500 HALF (30000 + 6 * 9000) by 3006 is 27
        due("three of a WEIGHT of 1", 183, y.choose(0, 30, 0));
        text(y, "");
        for (int h = 3; h <= 10; h++) y.cost(h, 999);
        due("the first ten: 11 and 12 are the only cheap ones", 0, y.choose(0, 30, 0));
        due("one dear and two cheap", (1 << 3) + (1 << 11) + (1 << 12), y.choose(0, 1019, 1));
        y.cost(3, 0);
        due("without COST no choice: 13 comes in", (1 << 11) + (1 << 12) + (1 << 13), y.choose(0, 30, 1));
    }

    /** One that has no WEIGHT at a KNOT isn't counted there. */
    private static void chooseApart() {
        promise = "30 choose apart";
        NorthCurve x = new NorthCurve();
        for (int k = 0; k < 6; k++) datedAt(x, k / 2 * 300, 0, 0, 100 + k / 2 * 500, 100 + k / 2 * 500);
        text(x, "window 20;need 2;");
        x.edition();
        for (int k = 0; k < 3; k++) x.cost(hearthAt(x, k * 300, 0, 0), 1);
        due("three at three places", 0, x.choose(0, 9, 0));
        due("three at three places", 0, x.choose(0, 9, 1));
        x.cost(hearthAt(x, 600, 0, 0), 1);
        due("two at one place", 200, x.choose(0, 9, 0));
        due("two at one place", (1 << 8) + (1 << 9), x.choose(0, 9, 1));
        x.cost(hearthAt(x, 0, 0, 0), 1);
        due("of two places the least as bits", (1 << 8) + (1 << 9), x.choose(0, 9, 1));
        x.cost(8, 0);
        due("the first place", (1 << 6) + (1 << 10), x.choose(0, 9, 1));
    }

    private static void report() {
        promise = "31 report";
        NorthCurve x = slope();
        hearthAt(x, 50, 600, 150);
        x.hearth(0);
        due("no EDITION yet", NONE, x.report(2, 0));
        x.edition();
        due("hearth 4", NONE, x.report(4, 0));
        due("hearth -1", NONE, x.report(-1, 0));
        due("edition 1", NONE, x.report(2, 1));
        due("no MEAN", NONE, x.report(3, 0));
        due("without PIECES", 0, x.report(0, 0));
        for (int r = 1; r < 40; r++) due("report " + r, r, x.report(2, 0));
        due("the 41st", NONE, x.report(2, 0));
        due("count(8)", 40, x.count(8));
    }

    private static void reportOf() {
        promise = "32 reportOf";
        NorthCurve x = slope();
        hearthAt(x, 50, 600, 150);
        x.edition();
        x.day(9);
        x.report(2, 0);
        x.report(0, 0);
        int[] want = {2, 0, 9, 1, 113, 187, 0};
        for (int what = 0; what < 7; what++) due("what " + what, want[what], x.reportOf(0, what));
        due("what 7", NONE, x.reportOf(0, 7));
        due("what -1", NONE, x.reportOf(0, -1));
        due("report 2", NONE, x.reportOf(2, 0));
        due("report -1", NONE, x.reportOf(-1, 0));
        due("without PIECES", 0, x.reportOf(1, 3));
        due("without PIECES", NONE, x.reportOf(1, 4));
        due("without PIECES", NONE, x.reportOf(1, 5));
        due("without PIECES, not STALE", 0, x.reportOf(1, 6));
        x.witness(2, 1, 150, 150);
        due("without ORDER", 0, x.reportOf(0, 6));
        x.cube(2, 0, 52, 600, 150);
        due("its MEAN is another one", 1, x.reportOf(0, 6));
        due("it keeps its PIECES", 113, x.reportOf(0, 4));
        text(x, "drop if cube=1;");
        due("as it was", 0, x.reportOf(0, 6));
        text(x, "drop if 1=1;");
        due("no MEAN: no PIECES", 1, x.reportOf(0, 6));
        due("no MEAN: no PIECES, as it had none", 0, x.reportOf(1, 6));
        text(x, "drop if cube=1;");
        datedAt(x, 0, 600, 100, 300, 300);
        x.edition();
        due("by the latest EDITION others", 1, x.reportOf(0, 6));
        due("that has others too", 1, x.reportOf(1, 6));
        due("new ones", 2, x.report(2, 1));
        due("how many", 2, x.reportOf(2, 3));
        due("first", 113, x.reportOf(2, 4));
        due("last", 287, x.reportOf(2, 5));
        due("edition", 1, x.reportOf(2, 1));
        due("not STALE", 0, x.reportOf(2, 6));
        text(x, "drop if cube=1;base 10;");
        due("not STALE", 0, x.reportOf(2, 6));
        // the parts alone: two lone KNOTS in reach of one cone, I a little nearer to one of them
        NorthCurve y = new NorthCurve();
        datedAt(y, 0, 0, 0, 100, 100);
        datedAt(y, 0, 8, 0, 1100, 1100);
        text(y, "window 20;");
        y.edition();
        hearthAt(y, 0, 4, 0);
        y.report(2, 0);
        due("parts", 500, piece(y, 2, 0, false, 0, 2));
        y.tilt(2, 0, 1);
        due("parts: 36 of 74", 486, piece(y, 2, 0, false, 0, 2));
        due("in parts", 1, y.reportOf(0, 6));
    }

    private static void of() {
        promise = "33 of";
        NorthCurve x = new NorthCurve();
        x.hearth(5);
        x.hearth(1);
        x.hearth(2);
        x.cube(0, 0, 0, 0, 0);
        x.cube(0, 0, 0, 0, 0);
        x.cost(0, 12);
        x.order(0, 1);
        x.order(1, 2);
        int[][] want = {{5, 2, 12, 0, 1}, {1, 0, 0, 1, 1}, {2, 0, 0, 1, 0}};
        for (int h = 0; h < 3; h++) for (int what = 0; what < 5; what++) due("of(" + h + ", " + what + ")", want[h][what], x.of(h, what));
        x.order(0, 2);
        due("two ahead", 2, x.of(2, 3));
        due("two behind", 2, x.of(0, 4));
        due("what 5", NONE, x.of(0, 5));
        due("what -1", NONE, x.of(0, -1));
        due("hearth 3", NONE, x.of(3, 0));
        due("hearth -1", NONE, x.of(-1, 0));
    }

    private static void count() {
        promise = "34 count";
        NorthCurve x = new NorthCurve();
        x.hearth(0);
        x.hearth(0);
        x.day(7);
        for (int k = 0; k < 3; k++) x.twice(0, k, 0, 0);
        for (int k = 0; k < 4; k++) x.tilt(0, 0, 0);
        for (int k = 0; k < 5; k++) x.witness(1, 0, 5, 5);
        x.order(0, 1);
        for (int k = 0; k < 6; k++) x.rules();
        x.cube(1, 0, 0, 0, 0);
        x.cube(0, 0, 0, 0, 0);
        for (int k = 0; k < 8; k++) x.edition();
        for (int k = 0; k < 9; k++) x.report(0, 0);
        x.feed(0, 0, 0, 0, 0);
        x.end(10);
        int[] want = {2, 7, 3, 4, 5, 1, 6, 8, 9, 10};
        for (int what = 0; what < 10; what++) due("count(" + what + ")", want[what], x.count(what));
        due("count(10)", NONE, x.count(10));
        due("count(-1)", NONE, x.count(-1));
    }
}
