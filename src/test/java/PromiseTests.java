/** For each promise of the document: ordinary calls, the edges that it names, and wrong inputs. */
public final class PromiseTests {
    private static final long THROWS = 0x7777777777777777L;
    private static final int LEAST_INT = Integer.MIN_VALUE;
    private static final int LARGEST_INT = Integer.MAX_VALUE;

    private static int wrong = 0;
    private static String promise = "";

    private static void due(String call, long got, long want) {
        if (got != want) {
            wrong++;
            System.out.println(promise + ": " + call + " answered " + got + ", due is " + want);
        }
    }

    private static long value(DefaultRules r, int x) {
        try {
            return r.value(x);
        } catch (ArithmeticException e) {
            return THROWS;
        }
    }

    private static void dueInt(DefaultRules r, int x, int want) {
        due("value(" + x + ") of an int", value(r, x), want);
    }

    private static void dueLong(DefaultRules r, int x, long want) {
        due("value(" + x + ") of a long", value(r, x), want);
    }

    private static void dueFloat(DefaultRules r, int x, float want) {
        due("value(" + x + ") of a float", value(r, x), Float.floatToIntBits(want));
    }

    private static void dueDouble(DefaultRules r, int x, double want) {
        due("value(" + x + ") of a double", value(r, x), Double.doubleToLongBits(want));
    }

    /** A node of v in the base of a type 1 to 4. */
    private static int told(DefaultRules r, int v, int type) {
        int x = r.whole(v);
        due("tell", r.tell(x, type), 1);
        return x;
    }

    private static void fill(DefaultRules r, int nodes) {
        for (int i = 0; i < nodes; i++) {
            due("some to fill", r.some(), i);
        }
    }

    public static void main(String[] args) {
        newObject();
        family();
        type();
        instance();
        has();
        list();
        wider();
        whole();
        part();
        some();
        two();
        twoWholes();
        twoReals();
        one();
        turn();
        turnValues();
        need();
        tell();
        fix();
        group();
        needs();
        chosen();
        chosenByRules();
        lacks();
        value();
        bits();
        compare();
        System.out.println(wrong == 0 ? "PromiseTests: all answers are as due" : wrong + " answers are not as due");
        if (wrong != 0) {
            System.exit(1);
        }
    }

    private static void newObject() {
        promise = "promise 1";
        DefaultRules r = new DefaultRules();
        due("NOTHING", DefaultRules.NOTHING, Long.MIN_VALUE);
        due("group(0)", r.group(0), -1);
        due("wider", r.wider(false), 0);
        due("chosen(0)", r.chosen(0), -1);
        due("has(8, 0)", r.has(8, 0), -1);
        due("has(0, 6)", r.has(0, 6), -1);
        due("first node", r.some(), 0);
        due("third place", r.lacks(0, 2), -1);
        due("needs of some", r.needs(0, 0), 0);
        DefaultRules other = new DefaultRules();
        due("another object's first node", other.some(), 0);
        due("another object's second class", other.family(0, true), 8);
    }

    private static void family() {
        promise = "promise 2";
        DefaultRules r = new DefaultRules();
        due("bit 8", r.family(1 << 8, true), -2);
        due("bit 31", r.family(LEAST_INT, true), -2);
        due("all bits", r.family(-1, false), -2);
        due("family", r.family(0, true), 8);
        due("bit 8 now", r.family(1 << 8 | 1 << 2, false), 9);
        due("bit 10", r.family(1 << 10, false), -2);
        due("all first", r.family(255, true), 10);
        due("the last", r.family(0x7ff, true), 11);
        due("no room", r.family(0, true), -4);
        due("no room, all classes", r.family(0xfff, true), -4);
        due("no such ahead of no room", r.family(1 << 12, true), -2);
        int x = r.some();
        due("need", r.need(x, 9), 1);
        due("all supers", r.needs(x, 1), 1 << 9 | 1 << 8 | 1 << 2);
        due("no class 12", r.need(x, 12), -1);
    }

    private static void type() {
        promise = "promise 3";
        DefaultRules r = new DefaultRules();
        due("base -1", r.type(-1), -2);
        due("base 5", r.type(5), -2);
        due("base 0", r.type(0), 6);
        due("base 4", r.type(4), 7);
        due("base 1", r.type(1), 8);
        due("no type 9 yet", r.has(0, 9), -1);
        due("base 2", r.type(2), 9);
        due("no room", r.type(3), -4);
        due("bounds ahead of no room", r.type(5), -2);
        for (int c = 0; c < 8; c++) {
            due("a new type has no instance", r.has(c, 7), 0);
        }
    }

    private static void instance() {
        promise = "promise 4";
        DefaultRules r = new DefaultRules();
        due("class -1", r.instance(-1, 0), -1);
        due("class 8", r.instance(8, 0), -1);
        due("type -1", r.instance(0, -1), -1);
        due("type 6", r.instance(0, 6), -1);
        int[] bases = {0, 1, 2, 3};
        for (int base : bases) {
            r.type(base);
        }
        due("lacks 0", r.instance(1, 6), -3);
        due("0", r.instance(0, 6), 1);
        due("0 twice", r.instance(0, 6), -3);
        due("1", r.instance(1, 6), 1);
        due("2", r.instance(2, 6), 1);
        for (int c = 3; c < 8; c++) {
            due("number without base", r.instance(c, 6), -3);
            due("number of unit", r.instance(c, 0), -3);
            due("number of text", r.instance(c, 5), -3);
        }
        int[][] due = {{1, 1, 1, 1, 1, 1, -3, -3}, {1, 1, 1, 1, 1, 1, -3, -3}, {1, 1, 1, 1, 1, -3, 1, 1}};
        for (int t = 7; t < 10; t++) {
            due("4 lacks 1, 3", r.instance(4, t), -3);
            due("5 lacks 4", r.instance(5, t), -3);
            due("6 lacks 3", r.instance(6, t), -3);
            for (int c = 0; c < 8; c++) {
                due("instance(" + c + ", " + t + ")", r.instance(c, t), due[t - 7][c]);
                due("has(" + c + ", " + t + ")", r.has(c, t), due[t - 7][c] == 1 ? 1 : 0);
            }
        }
        instanceOfMoreClasses();
    }

    private static void instanceOfMoreClasses() {
        DefaultRules r = new DefaultRules();
        r.family(0, false);
        r.family(1 << 8 | 1 << 3, true);
        due("9 lacks 8", r.instance(9, 1), -3);
        due("8 of unit", r.instance(8, 0), 1);
        due("9 of unit lacks 3", r.instance(9, 0), -3);
        due("8 of int", r.instance(8, 1), 1);
        due("9 of int", r.instance(9, 1), 1);
        due("9 of int, twice", r.instance(9, 1), -3);
        due("double is 0 .. 4, 6, 7: 5", r.instance(5, 4), -3);
        due("long is 0 .. 5: 6", r.instance(6, 2), -3);
    }

    private static void has() {
        promise = "promise 5";
        DefaultRules r = new DefaultRules();
        int[] bits = {0x07, 0x3f, 0x3f, 0xdf, 0xdf, 0x07};
        for (int t = 0; t < 6; t++) {
            for (int c = 0; c < 8; c++) {
                due("has(" + c + ", " + t + ")", r.has(c, t), bits[t] >> c & 1);
            }
        }
        due("class -1", r.has(-1, 0), -1);
        due("class 8", r.has(8, 0), -1);
        due("type -1", r.has(0, -1), -1);
        due("type 6", r.has(0, 6), -1);
        due("far off", r.has(LARGEST_INT, LEAST_INT), -1);
        r.family(0, true);
        due("a new class", r.has(8, 1), 0);
    }

    private static void list() {
        promise = "promise 6";
        DefaultRules r = new DefaultRules();
        due("no type 6", r.list(6), -1);
        due("no type -2", r.list(-2), -1);
        due("third", r.list(1), 3);
        due("twice", r.list(1), 4);
        due("fifth", r.list(0), 5);
        due("sixth", r.list(5), 6);
        due("no room", r.list(3), -4);
        due("no such ahead of no room", r.list(6), -1);
        int x = r.whole(1);
        due("first one", r.chosen(x), 2);
        due("emptied", r.list(-1), 0);
        due("emptied again", r.list(-1), 0);
        due("empty", r.chosen(x), -14);
        due("at its start", r.list(3), 1);
        due("at its end", r.list(1), 2);
        due("first one now", r.chosen(x), 3);
        due("a place less", r.lacks(x, 2), -1);
    }

    private static void wider() {
        promise = "promise 7";
        DefaultRules r = new DefaultRules();
        due("narrow at first", r.wider(true), 0);
        due("wide then", r.wider(true), 1);
        due("and still", r.wider(false), 1);
        due("narrow", r.wider(false), 0);
    }

    private static void whole() {
        promise = "promise 8";
        DefaultRules r = new DefaultRules();
        due("whole", r.whole(-7), 0);
        due("needs", r.needs(0, 0), 1 << 3);
        dueLong(r, 0, -7);
        int[] values = {0, 1, LEAST_INT, LARGEST_INT, 16777217};
        for (int v : values) {
            dueInt(r, told(r, v, 1), v);
            dueLong(r, told(r, v, 2), v);
            dueFloat(r, told(r, v, 3), (float) v);
            dueDouble(r, told(r, v, 4), (double) v);
        }
        DefaultRules full = new DefaultRules();
        for (int i = 0; i < 60; i++) {
            due("whole", full.whole(i), i);
        }
        due("no room", full.whole(60), -4);
        due("no node 60", full.group(60), -1);
        dueLong(full, 59, 59);
    }

    private static void part() {
        promise = "promise 9";
        DefaultRules r = new DefaultRules();
        due("k 0", r.part(1, 0), -2);
        due("k 7", r.part(1, 7), -2);
        due("k -1", r.part(1, -1), -2);
        due("nothing was made", r.group(0), -1);
        double power = 10.0;
        for (int k = 1; k <= 6; k++) {
            int x = r.part(123456789, k);
            due("needs", r.needs(x, 0), 1 << 6);
            dueDouble(r, x, 123456789 / power);
            due("tell", r.tell(x, 3), 1);
            dueFloat(r, x, (float) (123456789 / power));
            power *= 10.0;
        }
        dueDouble(r, r.part(0, 3), 0.0);
        dueDouble(r, r.part(LEAST_INT, 6), LEAST_INT / 1000000.0);
        DefaultRules full = new DefaultRules();
        fill(full, 60);
        due("no room", full.part(1, 1), -4);
        due("bounds ahead of no room", full.part(1, 7), -2);
    }

    private static void some() {
        promise = "promise 10";
        DefaultRules r = new DefaultRules();
        fill(r, 60);
        due("no room", r.some(), -4);
        due("needs", r.needs(59, 0), 0);
        due("no value", value(r, 0), DefaultRules.NOTHING);
        due("need", r.need(0, 3), 1);
        due("chosen", r.chosen(0), 2);
        due("no value with a type", value(r, 0), DefaultRules.NOTHING);
    }

    private static void two() {
        promise = "promise 11";
        DefaultRules r = new DefaultRules();
        int[] need = {3, 3, 3, 6, 5, 5, 1, 1};
        for (int kind = 0; kind < 8; kind++) {
            int x = r.some();
            int y = r.some();
            due("two", r.two(kind, x, y), x + 2);
            due("needs", r.needs(y, 0), 1 << need[kind]);
            due("group", r.group(x + 2), x);
            due("joined", r.group(y), x);
        }
        due("x", r.two(0, 24, 0), -1);
        due("y", r.two(0, 0, 24), -1);
        due("x -1", r.two(0, -1, 0), -1);
        due("y -1", r.two(0, 0, -1), -1);
        due("no such ahead of bounds", r.two(8, 0, 24), -1);
        due("kind 8", r.two(8, 0, 1), -2);
        due("kind -1", r.two(-1, 0, 1), -2);
        due("tell", r.tell(0, 1), 1);
        due("tell", r.tell(3, 2), 1);
        due("bounds ahead of unlike", r.two(8, 0, 3), -2);
        due("unlike", r.two(0, 0, 3), -3);
        due("unlike, not joined", r.group(3), 3);
        due("unlike, no need", r.needs(3, 0), 8);
        due("one told", r.two(6, 6, 3), 24);
        due("told of both", r.chosen(6), 2);
        due("needs of both", r.needs(6, 0), 1 << 3 | 1 << 1);
        due("tell alike", r.tell(21, 2), 1);
        due("told alike", r.two(0, 21, 3), 25);
        due("one group", r.two(0, 21, 21), 26);
        due("fixed", r.fix(12), 1);
        due("fixed one", r.two(0, 15, 12), 27);
        due("fixed both", r.fix(15), 0);
        due("greater one is told", r.two(0, 3, 18), 28);
        due("told by another", r.chosen(20), 2);
        joined(true);
        joined(false);
        twoWithoutRoom();
    }

    /** What is known of one group is known of both then, whichever of them is the lesser. */
    private static void joined(boolean lesserFirst) {
        DefaultRules r = new DefaultRules();
        fill(r, 6);
        r.need(0, 2);
        r.need(1, 0);
        r.tell(3, 1);
        r.fix(5);
        r.two(6, lesserFirst ? 0 : 1, lesserFirst ? 1 : 0);
        r.two(6, lesserFirst ? 2 : 3, lesserFirst ? 3 : 2);
        r.two(6, lesserFirst ? 4 : 5, lesserFirst ? 5 : 4);
        due("needs of both", r.needs(0, 0), 1 << 2 | 1 << 0 | 1 << 1);
        due("needs of both, of the new one", r.needs(6, 0), 1 << 2 | 1 << 0 | 1 << 1);
        due("told of one", r.chosen(2), 1);
        due("told of one, of the new one", r.chosen(7), 1);
        due("fixed of one", r.fix(4), 0);
        due("fixed of one, of the new one", r.chosen(8), -11);
    }

    private static void twoWithoutRoom() {
        DefaultRules r = new DefaultRules();
        fill(r, 60);
        due("no room", r.two(0, 0, 1), -4);
        due("not joined", r.group(1), 1);
        due("no need", r.needs(0, 0), 0);
        due("tell", r.tell(0, 1), 1);
        due("tell", r.tell(1, 2), 1);
        due("unlike ahead of no room", r.two(0, 0, 1), -3);
        due("kind ahead of no room", r.two(9, 2, 3), -2);
    }

    private static void twoWholes() {
        promise = "promise 11, whole numbers";
        int[] ints = {0, 1, -1, 7, -7, 2, -2, 46341, LARGEST_INT, LEAST_INT};
        for (int a : ints) {
            for (int b : ints) {
                DefaultRules r = new DefaultRules();
                int x = told(r, a, 1);
                int y = told(r, b, 1);
                dueInt(r, r.two(0, x, y), a + b);
                dueInt(r, r.two(1, x, y), a - b);
                dueInt(r, r.two(2, x, y), a * b);
                due("quotient", value(r, r.two(4, x, y)), b == 0 ? THROWS : a / b);
                due("rest", value(r, r.two(5, x, y)), b == 0 ? THROWS : a % b);
                dueInt(r, r.two(6, x, y), Math.min(a, b));
                dueInt(r, r.two(7, x, y), Math.max(a, b));
                longs(a, b);
            }
        }
    }

    private static void longs(int a, int b) {
        DefaultRules r = new DefaultRules();
        int x = r.whole(a);
        int high = r.two(2, x, r.two(2, x, x));
        int y = r.whole(b);
        long h = (long) a * a * a;
        dueLong(r, high, h);
        dueLong(r, r.two(0, high, y), h + b);
        dueLong(r, r.two(1, high, y), h - b);
        dueLong(r, r.two(2, high, high), h * h);
        due("quotient", value(r, r.two(4, high, y)), b == 0 ? THROWS : h / b);
        due("rest", value(r, r.two(5, high, y)), b == 0 ? THROWS : h % b);
        dueLong(r, r.two(6, high, y), Math.min(h, b));
        dueLong(r, r.two(7, high, y), Math.max(h, b));
    }

    /** Nodes of numbers that are hard on floats: 0, -0, endless ones, no number, large and small ones. */
    private static int[] hard(DefaultRules r, int type) {
        int zero = told(r, 0, type);
        int three = r.whole(3);
        int tenth = r.part(-1, 1);
        int minusZero = r.one(0, zero);
        int endless = r.two(3, three, zero);
        int minusEndless = r.two(3, tenth, zero);
        int noNumber = r.two(3, zero, zero);
        int large = told(r, LARGEST_INT, type);
        int small = r.part(7, 6);
        due("tell", r.tell(small, type), 1);
        for (int i = 0; i < (type == 3 ? 2 : 5); i++) {
            large = r.two(2, large, large);
            small = r.two(2, small, small);
        }
        return new int[] {zero, minusZero, three, tenth, endless, minusEndless, noNumber, large, small};
    }

    private static double[] hardDoubles() {
        double large = LARGEST_INT;
        double small = 7 / 1000000.0;
        for (int i = 0; i < 5; i++) {
            large *= large;
            small *= small;
        }
        return new double[] {0.0, -0.0, 3.0, -0.1, 1 / 0.0, -1 / 0.0, 0 / 0.0, large, small};
    }

    private static float[] hardFloats() {
        float large = LARGEST_INT;
        float small = (float) (7 / 1000000.0);
        for (int i = 0; i < 2; i++) {
            large *= large;
            small *= small;
        }
        return new float[] {0f, -0f, 3f, (float) -0.1, 1 / 0f, -1 / 0f, 0 / 0f, large, small};
    }

    private static void twoReals() {
        promise = "promise 11, doubles and floats";
        double[] d = hardDoubles();
        float[] f = hardFloats();
        for (int i = 0; i < d.length; i++) {
            for (int j = 0; j < d.length; j++) {
                DefaultRules r = new DefaultRules();
                int[] n = hard(r, 4);
                dueDouble(r, r.two(0, n[i], n[j]), d[i] + d[j]);
                dueDouble(r, r.two(1, n[i], n[j]), d[i] - d[j]);
                dueDouble(r, r.two(2, n[i], n[j]), d[i] * d[j]);
                dueDouble(r, r.two(3, n[i], n[j]), d[i] / d[j]);
                dueDouble(r, r.two(6, n[i], n[j]), d[i] <= d[j] ? d[i] : d[j]);
                dueDouble(r, r.two(7, n[i], n[j]), d[i] <= d[j] ? d[j] : d[i]);
                due("compare, joined by then", r.compare(n[i], n[j]), d[i] < d[j] ? 0 : d[i] == d[j] ? 1 : d[i] > d[j] ? 2 : 3);
                DefaultRules s = new DefaultRules();
                n = hard(s, 3);
                dueFloat(s, s.two(0, n[i], n[j]), f[i] + f[j]);
                dueFloat(s, s.two(1, n[i], n[j]), f[i] - f[j]);
                dueFloat(s, s.two(2, n[i], n[j]), f[i] * f[j]);
                dueFloat(s, s.two(3, n[i], n[j]), f[i] / f[j]);
                dueFloat(s, s.two(6, n[i], n[j]), f[i] <= f[j] ? f[i] : f[j]);
                dueFloat(s, s.two(7, n[i], n[j]), f[i] <= f[j] ? f[j] : f[i]);
                due("compare, joined by then", s.compare(n[i], n[j]), f[i] < f[j] ? 0 : f[i] == f[j] ? 1 : f[i] > f[j] ? 2 : 3);
            }
        }
    }

    private static void one() {
        promise = "promise 12";
        DefaultRules r = new DefaultRules();
        due("no node", r.one(0, 0), -1);
        due("some", r.some(), 0);
        due("node -1", r.one(0, -1), -1);
        due("no such ahead of bounds", r.one(3, 1), -1);
        due("kind 3", r.one(3, 0), -2);
        due("kind -1", r.one(-1, 0), -2);
        due("no need yet", r.needs(0, 0), 0);
        due("one", r.one(2, 0), 1);
        due("needs", r.needs(0, 0), 8);
        due("group", r.group(1), 0);
        int[] values = {0, 1, -1, 5, -5, LARGEST_INT, LEAST_INT};
        for (int v : values) {
            int x = told(r, v, 1);
            dueInt(r, r.one(0, x), -v);
            dueInt(r, r.one(1, x), Math.abs(v));
            dueInt(r, r.one(2, x), Integer.signum(v));
        }
        int x = r.whole(1 << 21);
        int least = r.two(2, x, r.two(2, x, x));
        dueLong(r, least, Long.MIN_VALUE);
        dueLong(r, r.one(0, least), Long.MIN_VALUE);
        dueLong(r, r.one(1, least), Long.MIN_VALUE);
        dueLong(r, r.one(2, least), -1);
        oneOfReals();
        DefaultRules full = new DefaultRules();
        fill(full, 60);
        due("no room", full.one(0, 0), -4);
        due("no need", full.needs(0, 0), 0);
        due("kind ahead of no room", full.one(3, 0), -2);
    }

    private static void oneOfReals() {
        double[] d = hardDoubles();
        float[] f = hardFloats();
        for (int i = 0; i < d.length; i++) {
            DefaultRules r = new DefaultRules();
            int[] n = hard(r, 4);
            dueDouble(r, r.one(0, n[i]), -d[i]);
            dueDouble(r, r.one(1, n[i]), Math.abs(d[i]));
            dueDouble(r, r.one(2, n[i]), Math.signum(d[i]));
            r = new DefaultRules();
            n = hard(r, 3);
            dueFloat(r, r.one(0, n[i]), -f[i]);
            dueFloat(r, r.one(1, n[i]), Math.abs(f[i]));
            dueFloat(r, r.one(2, n[i]), Math.signum(f[i]));
        }
    }

    private static void turn() {
        promise = "promise 13";
        DefaultRules r = new DefaultRules();
        due("no node", r.turn(0, 0), -1);
        int[] ofOld = {5, 7, 4};
        int[] ofNew = {3, 5, 6};
        for (int kind = 0; kind < 3; kind++) {
            int x = r.some();
            due("turn", r.turn(kind, x), x + 1);
            due("needs of x", r.needs(x, 0), 1 << ofOld[kind]);
            due("needs of the new one", r.needs(x + 1, 0), 1 << ofNew[kind]);
            due("a new group", r.group(x + 1), x + 1);
        }
        due("node -1", r.turn(0, -1), -1);
        due("no such ahead of bounds", r.turn(3, 6), -1);
        due("kind 3", r.turn(3, 0), -2);
        due("kind -1", r.turn(-1, 0), -2);
        due("tell", r.tell(0, 1), 1);
        due("fix", r.fix(0), 1);
        int free = r.turn(0, 0);
        due("not told", r.lacks(free, -1), -3);
        due("not fixed", r.fix(free), 1);
        DefaultRules full = new DefaultRules();
        fill(full, 60);
        due("no room", full.turn(0, 0), -4);
        due("no need", full.needs(0, 0), 0);
        due("kind ahead of no room", full.turn(3, 0), -2);
    }

    private static void turnValues() {
        promise = "promise 13, values";
        DefaultRules r = new DefaultRules();
        int x = r.whole(LARGEST_INT);
        int y = r.two(2, x, x);
        int z = r.two(0, y, r.whole(536870913));
        long v = (long) LARGEST_INT * LARGEST_INT + 536870913;
        int asInt = r.turn(0, z);
        int asLong = r.turn(0, z);
        int asFloat = r.turn(0, z);
        int asDouble = r.turn(0, z);
        int byDouble = r.turn(2, z);
        int byDoubleAsFloat = r.turn(2, z);
        r.tell(asInt, 1);
        r.tell(asLong, 2);
        r.tell(asFloat, 3);
        r.tell(asDouble, 4);
        r.tell(byDoubleAsFloat, 3);
        dueInt(r, asInt, (int) v);
        dueLong(r, asLong, v);
        dueFloat(r, asFloat, (float) v);
        dueDouble(r, asDouble, (double) v);
        dueDouble(r, byDouble, (double) v);
        dueFloat(r, byDoubleAsFloat, (float) (double) v);
        roundedTwice();
        cuts();
    }

    /** 2 to the 54, 2 to the 30 and 1 more: a float straight from it is not that by way of a double. */
    private static void roundedTwice() {
        DefaultRules r = new DefaultRules();
        int a = r.whole(1 << 27);
        int x = r.two(0, r.two(2, a, a), r.whole((1 << 30) + 1));
        long v = (1L << 54) + (1L << 30) + 1;
        int straight = r.turn(0, x);
        int byDouble = r.turn(2, x);
        r.tell(straight, 3);
        r.tell(byDouble, 3);
        dueLong(r, x, v);
        due("the case is one", (float) v == (float) (double) v ? 1 : 0, 0);
        dueFloat(r, straight, (float) v);
        dueFloat(r, byDouble, (float) (double) v);
    }

    private static void cuts() {
        double[] d = hardDoubles();
        float[] f = hardFloats();
        for (int i = 0; i < d.length; i++) {
            for (int type = 3; type <= 4; type++) {
                DefaultRules r = new DefaultRules();
                int[] n = hard(r, type);
                double v = type == 4 ? d[i] : f[i];
                dueLong(r, r.turn(1, n[i]), (long) v);
                int asInt = r.turn(1, n[i]);
                r.tell(asInt, 1);
                dueInt(r, asInt, (int) v);
                dueDouble(r, r.turn(2, n[i]), v);
                int asFloat = r.turn(2, n[i]);
                r.tell(asFloat, 3);
                dueFloat(r, asFloat, (float) v);
            }
        }
        DefaultRules r = new DefaultRules();
        int x = r.turn(1, r.part(-29, 1));
        dueLong(r, x, -2);
    }

    private static void need() {
        promise = "promise 14";
        DefaultRules r = new DefaultRules();
        due("no node", r.need(0, 0), -1);
        r.some();
        r.some();
        due("class 8", r.need(0, 8), -1);
        due("class -1", r.need(0, -1), -1);
        due("node -1", r.need(-1, 0), -1);
        due("need 5", r.need(0, 5), 1);
        due("need 5 again", r.need(0, 5), 0);
        due("a super of it is another one", r.need(0, 4), 1);
        due("needs", r.needs(0, 0), 1 << 5 | 1 << 4);
        due("not another group's", r.needs(1, 0), 0);
        r.two(6, 0, 1);
        due("the group's", r.need(1, 5), 0);
        r.family(0, false);
        due("a new class", r.need(1, 8), 1);
        due("of all", r.need(0, 8), 0);
    }

    private static void tell() {
        promise = "promise 15";
        DefaultRules r = new DefaultRules();
        due("no node", r.tell(0, 1), -1);
        r.whole(1);
        due("type 6", r.tell(0, 6), -1);
        due("type -1", r.tell(0, -1), -1);
        due("nothing yet", r.lacks(0, -1), -3);
        due("tell", r.tell(0, 3), 1);
        due("the same", r.tell(0, 3), 1);
        due("another one", r.tell(0, 1), -3);
        due("no such ahead of another one", r.tell(0, 6), -1);
        due("chosen", r.chosen(0), 3);
        r.some();
        r.two(0, 1, 0);
        due("the group's", r.tell(1, 2), -3);
        r.some();
        due("type 0", r.tell(3, 0), 1);
        due("type 0 is one", r.chosen(3), 0);
        due("another than 0", r.tell(3, 5), -3);
    }

    private static void fix() {
        promise = "promise 16";
        DefaultRules r = new DefaultRules();
        due("no node", r.fix(0), -1);
        due("node -1", r.fix(-1), -1);
        r.whole(1);
        r.whole(2);
        due("fix", r.fix(0), 1);
        due("fix again", r.fix(0), 0);
        due("chosen", r.chosen(0), -11);
        due("another group", r.chosen(1), 2);
        r.two(0, 1, 0);
        due("the joined one", r.fix(1), 0);
        due("no value", value(r, 2), DefaultRules.NOTHING);
        due("tell", r.tell(1, 1), 1);
        due("told, though fixed", r.chosen(2), 1);
        dueInt(r, 2, 3);
    }

    private static void group() {
        promise = "promise 17";
        DefaultRules r = new DefaultRules();
        fill(r, 6);
        due("no node", r.group(6), -1);
        due("node -1", r.group(-1), -1);
        due("least int", r.group(LEAST_INT), -1);
        for (int i = 0; i < 6; i++) {
            due("alone", r.group(i), i);
        }
        r.two(6, 5, 3);
        due("5, 3", r.group(5), 3);
        r.two(6, 4, 1);
        r.two(6, 4, 6);
        int[] least = {0, 1, 2, 1, 1, 1, 1, 1, 1};
        for (int i = 0; i < least.length; i++) {
            due("group(" + i + ")", r.group(i), least[i]);
        }
        r.one(0, 8);
        due("one", r.group(9), 1);
    }

    private static void needs() {
        promise = "promise 18";
        DefaultRules r = new DefaultRules();
        due("no node", r.needs(0, 0), -1);
        due("no such ahead of bounds", r.needs(0, 2), -1);
        int[] all = {0x01, 0x03, 0x04, 0x08, 0x1b, 0x3b, 0x48, 0xdb};
        for (int c = 0; c < 8; c++) {
            r.some();
            r.need(c, c);
            due("as they came", r.needs(c, 0), 1 << c);
            due("with all supers", r.needs(c, 1), all[c]);
        }
        due("what 2", r.needs(0, 2), -2);
        due("what -1", r.needs(0, -1), -2);
        r.family(1 << 5, true);
        r.family(1 << 8 | 1 << 2, true);
        r.need(0, 9);
        due("as they came", r.needs(0, 0), 1 << 9 | 1);
        due("with supers of supers", r.needs(0, 1), 1 << 9 | 1 << 8 | 0x3f);
    }

    private static void chosen() {
        promise = "promise 19";
        DefaultRules r = new DefaultRules();
        due("node -1", r.chosen(-1), -1);
        int x = r.whole(1);
        due("one that was not made", r.chosen(1), -1);
        due("long", r.chosen(x), 2);
        r.need(x, 6);
        due("double", r.chosen(x), 4);
        r.need(x, 5);
        due("none has all", r.chosen(x), -15);
        r.tell(x, 1);
        due("told lacks", r.chosen(x), -16);
        r.fix(x);
        due("told lacks, and fixed", r.chosen(x), -16);
        due("type", r.type(3), 6);
        int y = r.whole(2);
        r.tell(y, 6);
        due("told has none", r.chosen(y), -16);
        r.instance(3, 6);
        due("told has it now", r.chosen(y), 6);
        int z = r.some();
        r.tell(z, 0);
        due("told without needs", r.chosen(z), 0);
        int w = r.some();
        r.fix(w);
        due("fixed ahead of nothing to go by", r.chosen(w), -11);
    }

    private static void chosenByRules() {
        promise = "promise 19, the rules";
        DefaultRules r = new DefaultRules();
        r.family(0, false);
        r.family(1 << 3, false);
        r.family(1 << 8 | 1 << 3, true);
        r.family(1 << 2, true);
        int[] types = {1, 2};
        for (int t : types) {
            r.instance(8, t);
            r.instance(9, t);
            r.instance(10, t);
            r.instance(11, t);
        }
        int[] narrow = {-12, -12, -12, 2, 2, 2, 4, 4, -12, -13, 2, -12};
        int[] wide = {2, 2, 2, 2, 2, 2, 4, 4, -12, 2, 2, -12};
        for (int c = 0; c < 12; c++) {
            due("some", r.some(), c);
            r.need(c, c);
            due("narrow, need " + c, r.chosen(c), narrow[c]);
            r.wider(true);
            due("wide, need " + c, r.chosen(c), wide[c]);
            r.wider(false);
        }
        int none = r.some();
        due("narrow, no need", r.chosen(none), -12);
        r.need(3, 8);
        due("narrow, 3 and 8", r.chosen(3), -13);
        r.wider(true);
        due("wide, no need", r.chosen(none), -12);
        due("wide, 3 and 8", r.chosen(3), 2);
        r.list(-1);
        due("empty list", r.chosen(3), -14);
        due("empty list, nothing to go by", r.chosen(none), -12);
        r.wider(false);
        due("empty list, not standard", r.chosen(3), -13);
        due("empty list, narrow", r.chosen(4), -14);
        r.list(5);
        r.list(4);
        r.list(1);
        due("the first that has all: 4", r.chosen(4), 4);
        due("the first that has all: 5", r.chosen(5), 1);
        r.wider(true);
        due("text", r.chosen(1), 5);
        r.need(6, 8);
        due("none has all", r.chosen(6), -15);
    }

    private static void lacks() {
        promise = "promise 20";
        DefaultRules r = new DefaultRules();
        due("no node", r.lacks(0, 0), -1);
        int x = r.some();
        due("no need", r.lacks(x, 0), -3);
        r.need(x, 7);
        due("long lacks", r.lacks(x, 0), 7);
        r.need(x, 6);
        due("long lacks the least", r.lacks(x, 0), 6);
        due("double has all", r.lacks(x, 1), -3);
        due("place 2", r.lacks(x, 2), -1);
        due("place -2", r.lacks(x, -2), -1);
        due("nothing told", r.lacks(x, -1), -3);
        r.list(5);
        due("text lacks as they came", r.lacks(x, 2), 6);
        r.tell(x, 0);
        due("told lacks", r.lacks(x, -1), 6);
        r.need(x, 2);
        due("told has 2", r.lacks(x, -1), 6);
        int y = r.whole(1);
        r.tell(y, 1);
        due("told has all", r.lacks(y, -1), -3);
        r.type(0);
        r.list(6);
        r.need(y, 0);
        due("a type without instances lacks the least", r.lacks(y, 3), 0);
        r.list(-1);
        due("empty list", r.lacks(y, 0), -1);
        due("told, empty list", r.lacks(x, -1), 6);
    }

    private static void value() {
        promise = "promise 21";
        DefaultRules r = new DefaultRules();
        due("no node", value(r, 0), DefaultRules.NOTHING);
        due("node -1", value(r, -1), DefaultRules.NOTHING);
        int zero = r.whole(0);
        int by = r.two(4, zero, zero);
        int more = r.two(6, zero, by);
        int further = r.turn(0, more);
        due("by 0", value(r, by), THROWS);
        due("of by 0", value(r, more), THROWS);
        due("of by 0, in another group", value(r, further), THROWS);
        dueLong(r, zero, 0);
        int some = r.some();
        int mixed = r.two(0, further, some);
        due("nothing ahead of by 0", value(r, mixed), DefaultRules.NOTHING);
        due("rest by 0", value(r, r.two(5, zero, zero)), THROWS);
        r.fix(further);
        due("no type", value(r, further), DefaultRules.NOTHING);
        int told = r.turn(0, further);
        due("of what has no type", value(r, told), DefaultRules.NOTHING);
        due("of others still", value(r, by), THROWS);
        r.fix(zero);
        due("no type any more", value(r, by), DefaultRules.NOTHING);
        due("no base", value(r, withoutBase(r)), DefaultRules.NOTHING);
        basesCount();
        valuesComeAnew();
    }

    /** A number that is too small for a float: divided by itself it is 1, or no number, by THE LIST of then. */
    private static void valuesComeAnew() {
        DefaultRules r = new DefaultRules();
        int x = r.part(1, 6);
        for (int i = 0; i < 4; i++) {
            x = r.two(2, x, x);
        }
        int ratio = r.two(3, x, x);
        int cut = r.turn(1, ratio);
        for (int i = 0; i < 3; i++) {
            r.list(-1);
            r.list(2);
            r.list(4);
            dueDouble(r, ratio, 1.0);
            dueLong(r, cut, 1);
            due("a number", r.compare(ratio, ratio), 1);
            r.list(-1);
            r.list(3);
            r.list(2);
            dueFloat(r, ratio, 0 / 0f);
            dueLong(r, cut, 0);
            due("no number", r.compare(ratio, ratio), 3);
        }
    }

    private static int withoutBase(DefaultRules r) {
        int x = r.some();
        r.tell(x, 0);
        return r.two(6, x, x);
    }

    private static void basesCount() {
        DefaultRules r = new DefaultRules();
        int x = r.whole(LARGEST_INT);
        int y = r.two(0, x, x);
        int t = r.type(1);
        r.list(-1);
        r.list(t);
        due("no instance yet", r.chosen(y), -15);
        due("no type", value(r, y), DefaultRules.NOTHING);
        r.instance(3, t);
        due("its type", r.chosen(y), t);
        dueInt(r, y, -2);
        int u = r.type(3);
        r.instance(3, u);
        r.list(-1);
        r.list(u);
        dueFloat(r, y, (float) LARGEST_INT + (float) LARGEST_INT);
    }

    private static void bits() {
        promise = "promise 21, bits";
        for (int type = 3; type <= 4; type++) {
            DefaultRules r = new DefaultRules();
            int small = told(r, 1, type);
            int large = r.whole(LARGEST_INT);
            int third = r.two(3, small, r.whole(3));
            double s = 1.0 / 3.0;
            float f = 1f / 3f;
            for (int i = 0; i < 50; i++) {
                if (type == 4) {
                    dueDouble(r, third, s);
                } else {
                    dueFloat(r, third, f);
                }
                boolean down = i < 36;
                third = r.two(down ? 3 : 2, third, large);
                s = down ? s / LARGEST_INT : s * LARGEST_INT;
                f = down ? f / (float) LARGEST_INT : f * (float) LARGEST_INT;
            }
        }
        edgesOfDoubles();
        largest();
    }

    /** The largest double and float, which are near what is endless, and what is more than they. */
    private static void largest() {
        for (int type = 3; type <= 4; type++) {
            DefaultRules r = new DefaultRules();
            int one = told(r, 1, type);
            int high = r.whole(1 << 24);
            int step = r.whole(type == 3 ? 1 << 26 : 1 << 29);
            int x = r.two(1, type == 3 ? high : r.two(2, r.whole(1 << 29), high), one);
            for (int i = 0; i < (type == 3 ? 4 : 33); i++) {
                x = r.two(2, x, step);
            }
            x = r.two(2, x, r.whole(type == 3 ? 1 : 1 << 14));
            int less = r.one(0, x);
            int noNumber = r.two(3, r.two(1, one, one), r.two(1, one, one));
            if (type == 4) {
                dueDouble(r, x, Double.MAX_VALUE);
                dueDouble(r, less, -Double.MAX_VALUE);
                dueDouble(r, r.two(0, x, less), 0.0);
                dueDouble(r, r.two(0, less, less), -1 / 0.0);
            } else {
                dueFloat(r, x, Float.MAX_VALUE);
                dueFloat(r, less, -Float.MAX_VALUE);
                dueFloat(r, r.two(0, x, less), 0f);
                dueFloat(r, r.two(0, less, less), -1 / 0f);
            }
            due("no number", value(r, noNumber), type == 4 ? 0x7ff8000000000000L : 0x7fc00000L);
        }
    }

    /** Halves 1 and doubles it until both come to an end, by way of all powers of two there are. */
    private static void edgesOfDoubles() {
        for (int step = 1; step <= 30; step++) {
            DefaultRules r = new DefaultRules();
            int by = r.whole(1 << step);
            int up = r.whole(-3);
            int down = r.whole(3);
            r.need(up, 6);
            r.need(by, 6);
            double u = -3;
            double d = 3;
            for (int i = 0; i < 28; i++) {
                up = r.two(2, up, by);
                down = r.two(3, down, by);
                u *= 1 << step;
                d /= 1 << step;
            }
            dueDouble(r, up, u);
            dueDouble(r, down, d);
            r.tell(up, 3);
            float g = 3;
            for (int i = 0; i < 28; i++) {
                g /= 1 << step;
            }
            dueFloat(r, down, g);
        }
    }

    private static void compare() {
        promise = "promise 22";
        DefaultRules r = new DefaultRules();
        due("no node", r.compare(0, 0), -1);
        int x = r.whole(-3);
        int y = r.whole(4);
        due("no node y", r.compare(x, 2), -1);
        due("no node x", r.compare(2, x), -1);
        due("node -1", r.compare(-1, x), -1);
        due("two groups", r.compare(x, y), -3);
        int sum = r.two(0, x, y);
        due("less", r.compare(x, y), 0);
        due("more", r.compare(y, x), 2);
        due("the same", r.compare(x, x), 1);
        due("greater than both", r.compare(sum, y), 0);
        int zero = r.two(1, x, x);
        int by = r.two(5, x, zero);
        due("y throws", r.compare(x, by), -3);
        due("x throws", r.compare(by, x), -3);
        int some = r.some();
        r.two(0, some, x);
        due("y has no value", r.compare(x, some), -3);
        due("x has no value", r.compare(some, x), -3);
        int wide = r.whole(LARGEST_INT);
        int wider = r.two(2, wide, wide);
        due("far off", r.compare(r.one(0, wider), r.two(2, wider, r.whole(2))), 0);
        leastLongs();
    }

    /** The long -2 to the 63 and the bits of -0.0 look like NOTHING, but are values. */
    private static void leastLongs() {
        DefaultRules r = new DefaultRules();
        int x = r.whole(1 << 21);
        int least = r.two(2, x, r.two(2, x, x));
        due("least", value(r, least), DefaultRules.NOTHING);
        due("least, less", r.compare(least, x), 0);
        int zero = r.part(0, 1);
        int minusZero = r.one(0, zero);
        due("-0", value(r, minusZero), DefaultRules.NOTHING);
        due("-0 and 0", r.compare(minusZero, zero), 1);
        int noNumber = r.two(3, zero, minusZero);
        due("no number", r.compare(noNumber, noNumber), 3);
        due("no number, 0", r.compare(noNumber, zero), 3);
        r.fix(zero);
        due("no type", r.compare(zero, zero), -3);
    }
}
