import java.util.function.IntFunction;
import java.util.function.Supplier;

/**
 * Each sentence of the document that names a boundary has a test of its own here, in the document's
 * order: the least and the greatest argument that is taken and the first one on either side that is
 * not, rooms that are empty and full, and what wraps around. RefusalTests has the refused calls.
 */
public final class BoundaryTests {
    private static final int LEAST_INT = Integer.MIN_VALUE;
    private static final int LARGEST_INT = Integer.MAX_VALUE;
    private static final long LEAST_LONG = Long.MIN_VALUE;
    private static final long LARGEST_LONG = Long.MAX_VALUE;

    private static final int INT = 1;
    private static final int LONG = 2;
    private static final int FLOAT = 3;
    private static final int DOUBLE = 4;

    /** What value answers when it throws. */
    private static final long THROWS = 0x7777777777777777L;

    private static int wrong = 0;
    private static int sentences = 0;
    private static String sentence = "";

    private static void test(String words, Runnable body) {
        sentences++;
        sentence = words;
        body.run();
    }

    private static void due(String what, long got, long want) {
        if (got != want) {
            wrong++;
            System.out.println("\"" + sentence + "\": " + what + " answered " + got + ", due is " + want);
        }
    }

    private static long value(DefaultRules r, int x) {
        try {
            return r.value(x);
        } catch (ArithmeticException e) {
            return THROWS;
        }
    }

    /** A node that was refused has no value either, so that it must be seen apart from -0. */
    private static void dueWhole(DefaultRules r, String what, int x, long want) {
        due(what + ", whether the node is there", x < 0 ? 0 : 1, 1);
        due(what, value(r, x), want);
    }

    private static void dueFloat(DefaultRules r, String what, int x, float want) {
        dueWhole(r, what, x, Float.floatToIntBits(want));
    }

    private static void dueDouble(DefaultRules r, String what, int x, double want) {
        dueWhole(r, what, x, Double.doubleToLongBits(want));
    }

    /** As a number of the type, 1 to 4, that the node's group was told. */
    private static void dueReal(DefaultRules r, String what, int x, int type, double want) {
        if (type == FLOAT) {
            dueFloat(r, what, x, (float) want);
        } else {
            dueDouble(r, what, x, want);
        }
    }

    private static int whole(DefaultRules r, int v, int type) {
        int x = r.whole(v);
        due("tell", r.tell(x, type), 1);
        return x;
    }

    /** A node of any long, which takes ten nodes. */
    private static int ofLong(DefaultRules r, long v) {
        int step = whole(r, 1 << 16, LONG);
        int x = r.whole((int) (v >> 32));
        x = r.two(0, r.two(2, x, step), r.whole((int) (v >> 16 & 0xffff)));
        x = r.two(0, r.two(2, x, step), r.whole((int) (v & 0xffff)));
        dueWhole(r, "the long that was built", x, v);
        return x;
    }

    private static void fill(DefaultRules r, int nodes) {
        for (int n = 0; n < nodes; n++) {
            due("some", r.some(), n);
        }
    }

    /** All from least to greatest are taken, and none beyond; a new object for each. */
    private static void bounds(String what, IntFunction<Long> call, int least, int greatest, long refusal) {
        for (int v = least; v <= greatest; v++) {
            long answer = call.apply(v);
            due(what + " " + v + " is taken", answer == refusal ? 0 : 1, 1);
        }
        int[] beyond = {least - 1, greatest + 1, least - 2, greatest + 2, LEAST_INT, LARGEST_INT};
        for (int v : beyond) {
            due(what + " " + v, call.apply(v), refusal);
        }
    }

    public static void main(String[] args) {
        whatItIs();
        classes();
        types();
        nodes();
        leaves();
        twos();
        ones();
        turns();
        theType();
        nothing();
        arguments();
        promises();
        System.out.println(wrong == 0
            ? "BoundaryTests: all " + sentences + " sentences hold" : wrong + " answers are not as due");
        if (wrong != 0) {
            System.exit(1);
        }
    }

    private static void whatItIs() {
        test("An object is used for at most 512 calls after it has been made", () -> {
            DefaultRules r = new DefaultRules();
            due("call 1", r.whole(1), 0);
            due("call 2", r.whole(0), 1);
            due("call 3", r.two(4, 0, 1), 2);
            for (int call = 4; call < 511; call++) {
                due("call " + call, value(r, 2), THROWS);
            }
            due("call 511", r.two(0, 0, 0), 3);
            dueWhole(r, "call 512", 3, 2);
        });
    }

    // ---- Terms: CLASSES

    private static void classes() {
        test("0 EQ; 1 ORD (its SUPERS: 0); 2 SHOW; 3 NUM; 4 REAL (1, 3); 5 INTEGRAL (4); 6 FRACTIONAL (3); "
            + "7 REALFRAC (4, 6)", () -> {
            int[] withAllSupers = {0x01, 0x03, 0x04, 0x08, 0x1b, 0x3b, 0x48, 0xdb};
            DefaultRules r = new DefaultRules();
            fill(r, 8);
            for (int c = 0; c < 8; c++) {
                r.need(c, c);
                due("all supers of " + c, r.needs(c, 1), withAllSupers[c]);
            }
        });
        test("these are STANDARD", () -> {
            for (int c = 0; c < 8; c++) {
                DefaultRules r = new DefaultRules();
                int x = r.whole(1);
                r.need(x, c);
                due("narrow, 3 and " + c, r.chosen(x), c == 6 || c == 7 ? DOUBLE : LONG);
            }
        });
        test("others 8 .. 11 as they come", () -> {
            DefaultRules r = new DefaultRules();
            due("no class 8 yet", r.has(8, 0), -1);
            for (int c = 8; c <= 11; c++) {
                due("family", r.family(0, true), c);
                due("it is there", r.has(c, 0), 0);
                due("the next one is not", r.has(c + 1, 0), -1);
            }
            due("one too many", r.family(0, true), -4);
            due("and no class 12", r.has(12, 0), -1);
        });
        test("with SUPERS of lesser numbers", BoundaryTests::supersOfLesserNumbers);
        test("STANDARD or not", () -> {
            DefaultRules r = new DefaultRules();
            r.family(1 << 3, false);
            r.family(1 << 3, true);
            r.instance(8, LONG);
            r.instance(9, LONG);
            int no = r.whole(1);
            r.need(no, 8);
            int yes = r.whole(1);
            r.need(yes, 9);
            due("not", r.chosen(no), -13);
            due("standard", r.chosen(yes), LONG);
        });
        test("ALL SUPERS of a class are its SUPERS, and ALL SUPERS of these", () -> {
            DefaultRules r = new DefaultRules();
            r.family(1 << 7, true);
            r.family(1 << 8, true);
            r.family(1 << 9, true);
            r.family(1 << 10 | 1 << 2, true);
            fill(r, 5);
            int[] all = {0x1db, 0x3db, 0x7db, 0xfdf};
            for (int c = 8; c <= 11; c++) {
                r.need(c - 8, c);
                due("a chain up to " + c, r.needs(c - 8, 1), all[c - 8]);
                due("as it came", r.needs(c - 8, 0), 1 << c);
            }
            due("no need at all", r.needs(4, 1), 0);
        });
        test("NUMERIC are 3, and classes with 3 among ALL SUPERS", BoundaryTests::numericOnes);
    }

    private static void supersOfLesserNumbers() {
        DefaultRules r = new DefaultRules();
        for (int c = 8; c <= 11; c++) {
            due("itself", r.family(1 << c, true), -2);
            due("the one after", r.family(1 << c + 1, true), -2);
            due("all of 32", r.family(-1, true), -2);
            due("all but itself, of 32", r.family(~(1 << c), true), -2);
            due("all lesser ones", r.family((1 << c) - 1, true), c);
            int x = r.some();
            r.need(x, c);
            due("which are its supers", r.needs(x, 1), (1 << c + 1) - 1);
        }
        DefaultRules bare = new DefaultRules();
        due("none", bare.family(0, true), 8);
        int x = bare.some();
        bare.need(x, 8);
        due("which has none", bare.needs(x, 1), 1 << 8);
    }

    private static void numericOnes() {
        DefaultRules r = new DefaultRules();
        r.family(1 << 3, true);
        r.family(1 << 8, true);
        r.family(1 << 0 | 1 << 1 | 1 << 2, true);
        r.family(1 << 10, true);
        r.type(2);
        int[] order = {0, 1, 2, 3, 4, 5, 8, 9, 10, 11};
        for (int c : order) {
            due("instance", r.instance(c, 6), 1);
        }
        r.list(-1);
        r.list(6);
        r.list(DOUBLE);
        int[] want = {-12, -12, -12, 6, 6, 6, 4, 4, 6, 6, -12, -12};
        for (int c = 0; c < 12; c++) {
            int x = r.some();
            r.need(x, c);
            due("narrow, " + c, r.chosen(x), want[c]);
        }
    }

    // ---- Terms: TYPES, THE LIST

    private static void types() {
        test("0 UNIT, 5 TEXT (instances of 0, 1, 2); 1 INT, 2 LONG (0 to 5), 3 FLOAT, 4 DOUBLE (0 to 4, 6, 7)", () -> {
            String[] instances = {"11100000", "11111100", "11111100", "11111011", "11111011", "11100000"};
            DefaultRules r = new DefaultRules();
            for (int t = 0; t < 6; t++) {
                for (int c = 0; c < 8; c++) {
                    due("has(" + c + ", " + t + ")", r.has(c, t), instances[t].charAt(c) - '0');
                }
            }
        });
        test("others 6 .. 9 as they come", () -> {
            DefaultRules r = new DefaultRules();
            due("no type 6 yet", r.has(0, 6), -1);
            for (int t = 6; t <= 9; t++) {
                due("type", r.type(0), t);
                due("it is there, with no instance", r.has(0, t), 0);
                due("the next one is not", r.has(0, t + 1), -1);
            }
            due("one too many", r.type(0), -4);
            due("and no type 10", r.has(0, 10), -1);
        });
        test("with a BASE: 0 none, or one of 1 .. 4", () -> {
            for (int base = 0; base <= 4; base++) {
                DefaultRules r = new DefaultRules();
                due("type", r.type(base), 6);
                due("class 3 goes with a base alone", r.instance(3, 6), base == 0 ? -3 : 1);
            }
        });
        test("the BASE of 1 to 4 is itself, of 0, 5 none", () -> {
            int[] bases = {0, 1, 2, 3, 4, 0};
            for (int t = 0; t < 6; t++) {
                DefaultRules r = new DefaultRules();
                int x = whole(r, LARGEST_INT, t);
                dueOfBase(r, "type " + t, r.two(0, x, x), bases[t]);
            }
        });
        test("their numbers are those of Java's int, long, float, double", () -> {
            for (int base = 1; base <= 4; base++) {
                DefaultRules r = new DefaultRules();
                int t = r.type(base);
                r.instance(3, t);
                int x = whole(r, LARGEST_INT, t);
                dueOfBase(r, "a type more, of base " + base, r.two(0, x, x), base);
            }
        });
        test("THE LIST are TYPES that are taken, at first 2, 4", () -> {
            DefaultRules r = new DefaultRules();
            int x = r.some();
            r.need(x, 5);
            r.need(x, 6);
            due("place 0 is not 3, 4", r.lacks(x, 0), 6);
            due("place 1 is 3 or 4", r.lacks(x, 1), 5);
            due("no place 2", r.lacks(x, 2), -1);
            due("2, no other one", r.chosen(r.whole(1)), LONG);
            due("4, no other one", r.chosen(r.part(1, 1)), DOUBLE);
            due("they are two", r.list(0), 3);
        });
    }

    /** The node is the largest int, twice, by the base. */
    private static void dueOfBase(DefaultRules r, String what, int x, int base) {
        if (base == 0) {
            dueWhole(r, what, x, DefaultRules.NOTHING);
        } else if (base == INT) {
            dueWhole(r, what, x, -2);
        } else if (base == LONG) {
            dueWhole(r, what, x, 4294967294L);
        } else {
            dueReal(r, what, x, base, base == FLOAT ? 4294967296.0 : 4294967294.0);
        }
    }

    // ---- Terms: NODES

    private static void nodes() {
        test("NODES 0 .. 59, as they come", () -> {
            for (int maker = 0; maker < 6; maker++) {
                DefaultRules r = new DefaultRules();
                fill(r, 59);
                due("the last one, by " + maker, make(r, maker), 59);
                due("it is there", r.group(59) >= 0 ? 1 : 0, 1);
                due("one too many, by " + maker, make(r, maker), -4);
                due("it is not there", r.group(60), -1);
                DefaultRules first = new DefaultRules();
                due("a new object's first node, by " + maker, make(first, maker), maker < 3 ? 0 : -1);
            }
        });
        test("it is of the GROUP of those that are named", () -> {
            DefaultRules r = new DefaultRules();
            fill(r, 2);
            due("one of the last", r.group(r.one(0, 1)), 1);
            due("one of the first", r.group(r.one(0, 0)), 0);
            due("two of the same", r.group(r.two(0, 1, 1)), 1);
            due("nothing joined by these", r.group(1), 1);
        });
        test("joined, if they are two", () -> {
            DefaultRules r = new DefaultRules();
            fill(r, 59);
            due("the first and the last", r.group(r.two(6, 58, 0)), 0);
            due("the last one is of it", r.group(58), 0);
            for (int n = 1; n < 58; n++) {
                due("those between are not", r.group(n), n);
            }
            DefaultRules early = new DefaultRules();
            fill(early, 59);
            due("the first two", early.group(early.two(6, 0, 1)), 0);
            for (int n = 2; n < 59; n++) {
                due("those after are not", early.group(n), n);
            }
        });
        test("the NEEDS of both, what was TOLD of one, FIXED if one is", BoundaryTests::whatIsJoined);
        test("or of a new one", () -> {
            DefaultRules r = new DefaultRules();
            fill(r, 1);
            due("whole", r.group(r.whole(1)), 1);
            due("part", r.group(r.part(1, 1)), 2);
            due("some", r.group(r.some()), 3);
            r.tell(0, INT);
            r.fix(0);
            for (int kind = 0; kind < 3; kind++) {
                int x = r.turn(kind, 0);
                due("turn", r.group(x), x);
                due("which is not told", r.lacks(x, -1), -3);
                due("which is not fixed", r.fix(x), 1);
            }
        });
        test("the GROUP gets what the NODE's kind needs", () -> {
            DefaultRules r = new DefaultRules();
            due("whole", r.needs(r.whole(1), 0), 1 << 3);
            due("part", r.needs(r.part(1, 1), 0), 1 << 6);
            due("some", r.needs(r.some(), 0), 0);
            int[] ofTwo = {3, 3, 3, 6, 5, 5, 1, 1};
            for (int kind = 0; kind < 8; kind++) {
                int x = r.some();
                due("two " + kind, r.needs(r.two(kind, x, x), 0), 1 << ofTwo[kind]);
            }
            int[] ofOld = {5, 7, 4};
            int[] ofNew = {3, 5, 6};
            for (int kind = 0; kind < 3; kind++) {
                int x = r.some();
                due("one " + kind, r.needs(r.one(kind, x), 0), 1 << 3);
                int y = r.some();
                due("turn " + kind + ", the new one", r.needs(r.turn(kind, y), 0), 1 << ofNew[kind]);
                due("turn " + kind + ", the old one", r.needs(y, 0), 1 << ofOld[kind]);
            }
        });
    }

    private static int make(DefaultRules r, int maker) {
        return switch (maker) {
            case 0 -> r.whole(1);
            case 1 -> r.part(1, 1);
            case 2 -> r.some();
            case 3 -> r.two(0, 0, 0);
            case 4 -> r.one(0, 0);
            default -> r.turn(0, 0);
        };
    }

    private static void whatIsJoined() {
        for (int lesserFirst = 0; lesserFirst < 2; lesserFirst++) {
            for (int known = 0; known < 2; known++) {
                DefaultRules r = new DefaultRules();
                fill(r, 2);
                r.need(0, 0);
                r.need(1, 2);
                r.tell(known, 5);
                r.fix(known);
                int made = r.two(6, 1 - lesserFirst, lesserFirst);
                for (int n = 0; n <= made; n++) {
                    due("needs of both", r.needs(n, 0), 0x07);
                    due("told of one", r.chosen(n), 5);
                    due("told, so no other", r.tell(n, 0), -3);
                    due("fixed of one", r.fix(n), 0);
                }
            }
        }
        DefaultRules r = new DefaultRules();
        fill(r, 2);
        r.two(6, 0, 1);
        due("neither was fixed", r.fix(1), 1);
        due("neither was told", r.tell(0, 5), 1);
        DefaultRules alike = new DefaultRules();
        fill(alike, 2);
        alike.tell(0, 0);
        alike.tell(1, 0);
        due("both were told the least type", alike.two(6, 0, 1), 2);
        due("which it is", alike.chosen(2), 0);
    }

    // ---- Terms: WHOLE, PART, SOME

    private static void leaves() {
        test("WHOLE v (needs 3): v", () -> {
            int[] values = {LEAST_INT, LEAST_INT + 1, -1, 0, 1, LARGEST_INT - 1, LARGEST_INT, (1 << 24) + 1};
            for (int v : values) {
                DefaultRules r = new DefaultRules();
                dueWhole(r, v + " as an int", whole(r, v, INT), v);
                dueWhole(r, v + " as a long", whole(r, v, LONG), v);
                dueFloat(r, v + " as a float", whole(r, v, FLOAT), (float) v);
                dueDouble(r, v + " as a double", whole(r, v, DOUBLE), (double) v);
            }
        });
        test("PART v, k (6): v by 10.0 to the k, as a double", () -> {
            int[] values = {LEAST_INT, -1, 0, 1, 7, LARGEST_INT};
            double[] powers = {1.0, 10.0, 100.0, 1000.0, 10000.0, 100000.0, 1000000.0};
            for (int v : values) {
                DefaultRules r = new DefaultRules();
                for (int k = 1; k <= 6; k++) {
                    dueDouble(r, v + " by 10.0 to the " + k, r.part(v, k), v / powers[k]);
                }
            }
        });
        test("then as a float, if it is one", () -> {
            int v = 16777217;
            due("the case is one: a float by a float is another", (float) v / 10f == (float) (v / 10.0) ? 0 : 1, 1);
            DefaultRules r = new DefaultRules();
            int x = r.part(v, 1);
            r.tell(x, FLOAT);
            dueFloat(r, v + " by 10.0", x, (float) (v / 10.0));
            int least = r.part(LEAST_INT, 6);
            r.tell(least, FLOAT);
            dueFloat(r, "the least int by 1000000.0", least, (float) (LEAST_INT / 1000000.0));
        });
        test("SOME (nothing): it has no value", () -> {
            for (int t = 0; t < 6; t++) {
                DefaultRules r = new DefaultRules();
                int x = r.some();
                dueWhole(r, "of no type", x, DefaultRules.NOTHING);
                r.tell(x, t);
                due("of type " + t, r.chosen(x), t);
                dueWhole(r, "of type " + t, x, DefaultRules.NOTHING);
            }
        });
    }

    // ---- Terms: TWO

    private static void twos() {
        test("TWO x, y: 0 +", () -> {
            dueInts(0, LARGEST_INT, 1, LEAST_INT);
            dueInts(0, LARGEST_INT, 0, LARGEST_INT);
            dueInts(0, LEAST_INT, -1, LARGEST_INT);
            dueInts(0, LEAST_INT, LEAST_INT, 0);
            dueLongs(0, LARGEST_LONG, 1, LEAST_LONG);
            dueLongs(0, LARGEST_INT, 1, 2147483648L);
            dueLongs(0, LEAST_LONG, -1, LARGEST_LONG);
            dueLongs(0, LEAST_LONG, LEAST_LONG, 0);
            dueAllReals(0);
        });
        test("1 -", () -> {
            dueInts(1, LEAST_INT, 1, LARGEST_INT);
            dueInts(1, LARGEST_INT, -1, LEAST_INT);
            dueInts(1, 0, LEAST_INT, LEAST_INT);
            dueLongs(1, LEAST_LONG, 1, LARGEST_LONG);
            dueLongs(1, LEAST_INT, 1, -2147483649L);
            dueLongs(1, 0, LEAST_LONG, LEAST_LONG);
            dueAllReals(1);
        });
        test("2 *", () -> {
            dueInts(2, 46340, 46340, 2147395600);
            dueInts(2, 46341, 46341, -2147479015);
            dueInts(2, LEAST_INT, -1, LEAST_INT);
            dueInts(2, LARGEST_INT, LARGEST_INT, 1);
            dueLongs(2, LEAST_LONG, -1, LEAST_LONG);
            dueLongs(2, LARGEST_LONG, LARGEST_LONG, 1);
            dueLongs(2, 3037000500L, 3037000500L, -9223372036709301616L);
            dueAllReals(2);
        });
        test("3 / (6)", () -> dueAllReals(3));
        test("4 the quotient, cut", () -> {
            dueInts(4, 7, 2, 3);
            dueInts(4, -7, 2, -3);
            dueInts(4, 7, -2, -3);
            dueInts(4, -7, -2, 3);
            dueInts(4, 1, LEAST_INT, 0);
            dueInts(4, LEAST_INT, LEAST_INT, 1);
            dueInts(4, LEAST_INT, -1, LEAST_INT);
            dueLongs(4, LEAST_LONG, -1, LEAST_LONG);
            dueLongs(4, LEAST_INT, -1, 2147483648L);
            dueLongs(4, LEAST_LONG, 2, -4611686018427387904L);
            dueLongs(4, LARGEST_LONG, LEAST_LONG, 0);
        });
        test("5 the rest", () -> {
            dueInts(5, 7, 2, 1);
            dueInts(5, -7, 2, -1);
            dueInts(5, 7, -2, 1);
            dueInts(5, -7, -2, -1);
            dueInts(5, LEAST_INT, -1, 0);
            dueInts(5, LARGEST_INT, LEAST_INT, LARGEST_INT);
            dueLongs(5, LEAST_LONG, -1, 0);
            dueLongs(5, LEAST_LONG, LARGEST_LONG, -1);
            dueLongs(5, LARGEST_LONG, LEAST_LONG, LARGEST_LONG);
        });
        test("by 0: that throws", () -> {
            int[] values = {LEAST_INT, -1, 0, 1, LARGEST_INT};
            for (int v : values) {
                for (int kind = 4; kind <= 5; kind++) {
                    dueInts(kind, v, 0, THROWS);
                    dueLongs(kind, v, 0, THROWS);
                    dueInts(kind, 0, v, v == 0 ? THROWS : 0);
                    dueLongs(kind, 0, v, v == 0 ? THROWS : 0);
                }
            }
            for (int by = -1; by <= 1; by += 2) {
                dueInts(4, 5, by, 5 * by);
                dueInts(5, 5, by, 0);
                dueLongs(4, 1L << 40, by, (1L << 40) * by);
                dueLongs(5, 1L << 40, by, 0);
            }
            dueLongs(4, 1L << 32, 1L << 32, 1);
            dueLongs(5, 5, 1L << 32, 5);
        });
        test("6 x if x is y or less, else y", () -> dueChoice(6));
        test("7 y if x is y or less, else x (1)", () -> dueChoice(7));
    }

    private static void dueInts(int kind, int a, int b, long want) {
        DefaultRules r = new DefaultRules();
        int x = whole(r, a, INT);
        int y = whole(r, b, INT);
        dueWhole(r, "two(" + kind + ") of ints " + a + ", " + b, r.two(kind, x, y), want);
    }

    private static void dueLongs(int kind, long a, long b, long want) {
        DefaultRules r = new DefaultRules();
        int x = ofLong(r, a);
        int y = ofLong(r, b);
        dueWhole(r, "two(" + kind + ") of longs " + a + ", " + b, r.two(kind, x, y), want);
    }

    /** 0, -0, 1, endless ones, no number, the largest one and the least one above 0. */
    private static double[] hardReals(int type) {
        return new double[] {0.0, -0.0, 1.0, -1.0, 1 / 0.0, -1 / 0.0, 0 / 0.0,
            type == FLOAT ? Float.MAX_VALUE : Double.MAX_VALUE, type == FLOAT ? Float.MIN_VALUE : Double.MIN_VALUE};
    }

    /** A node of the hard real at a place; it takes some thirty nodes at most. */
    private static int ofHardReal(DefaultRules r, int type, int place) {
        int zero = whole(r, 0, type);
        int one = whole(r, 1, type);
        return switch (place) {
            case 0 -> zero;
            case 1 -> r.one(0, zero);
            case 2 -> one;
            case 3 -> r.one(0, one);
            case 4 -> r.two(3, one, zero);
            case 5 -> r.two(3, r.one(0, one), zero);
            case 6 -> r.two(3, zero, zero);
            case 7 -> largest(r, type);
            default -> powerOfTwo(r, type, type == FLOAT ? -149 : -1074);
        };
    }

    /** 2 less 2 to the -23 or -52, by 2 to the 127 or 1023. */
    private static int largest(DefaultRules r, int type) {
        int two = whole(r, 2, type);
        int last = powerOfTwo(r, type, type == FLOAT ? -23 : -52);
        return r.two(2, r.two(1, two, last), powerOfTwo(r, type, type == FLOAT ? 127 : 1023));
    }

    /** By squares of 2, or of a half, so that it takes few nodes; a half's squares end where the least one is. */
    private static int powerOfTwo(DefaultRules r, int type, int power) {
        int square = whole(r, 2, type);
        if (power < 0) {
            square = r.two(3, whole(r, 1, type), square);
        }
        int x = -1;
        int left = power < 0 ? -power : power;
        for (int bit = 1; bit <= left; bit <<= 1) {
            if (bit > 1) {
                square = r.two(2, square, square);
            }
            if ((left & bit) != 0) {
                x = x < 0 ? square : r.two(2, x, square);
            }
        }
        return x;
    }

    /** Each hard real by each, in an object for each side's pair, as Java reckons it. */
    private static void dueAllReals(int kind) {
        for (int type = FLOAT; type <= DOUBLE; type++) {
            double[] d = hardReals(type);
            for (int i = 0; i < d.length; i++) {
                for (int j = 0; j < d.length; j++) {
                    if (i == 7 && j == 7) {
                        continue;
                    }
                    DefaultRules r = new DefaultRules();
                    int x = ofHardReal(r, type, i);
                    int y = ofHardReal(r, type, j);
                    dueReal(r, "the number that was built", x, type, d[i]);
                    dueReal(r, "the number that was built", y, type, d[j]);
                    String what = "two(" + kind + ") of type " + type + ", " + d[i] + ", " + d[j];
                    dueReal(r, what, r.two(kind, x, y), type, ofTwo(kind, type, d[i], d[j]));
                }
            }
            DefaultRules r = new DefaultRules();
            int x = ofHardReal(r, type, 7);
            dueReal(r, "two(" + kind + ") of the largest by itself", r.two(kind, x, x), type, ofTwo(kind, type, d[7], d[7]));
        }
    }

    private static double ofTwo(int kind, int type, double a, double b) {
        float f = (float) a;
        float g = (float) b;
        return switch (kind) {
            case 0 -> type == FLOAT ? f + g : a + b;
            case 1 -> type == FLOAT ? f - g : a - b;
            case 2 -> type == FLOAT ? f * g : a * b;
            case 3 -> type == FLOAT ? f / g : a / b;
            case 6 -> a <= b ? a : b;
            default -> a <= b ? b : a;
        };
    }

    private static void dueChoice(int kind) {
        int[] ints = {LEAST_INT, LEAST_INT + 1, -1, 0, 1, LARGEST_INT};
        for (int a : ints) {
            for (int b : ints) {
                dueInts(kind, a, b, a <= b == (kind == 6) ? a : b);
            }
        }
        long[] longs = {LEAST_LONG, LEAST_LONG + 1, 0, 1L << 32, LARGEST_LONG};
        for (long a : longs) {
            for (long b : longs) {
                dueLongs(kind, a, b, a <= b == (kind == 6) ? a : b);
            }
        }
        dueAllReals(kind);
    }

    // ---- Terms: ONE

    private static void ones() {
        test("ONE x: 0 -x", () -> {
            dueOneInt(0, 0, 0);
            dueOneInt(0, 1, -1);
            dueOneInt(0, LARGEST_INT, LEAST_INT + 1);
            dueOneInt(0, LEAST_INT, LEAST_INT);
            dueOneLong(0, LEAST_INT, 2147483648L);
            dueOneLong(0, LARGEST_LONG, LEAST_LONG + 1);
            dueOneLong(0, LEAST_LONG, LEAST_LONG);
            dueOneReals(0);
        });
        test("1 without sign (of the least int, long: itself)", () -> {
            dueOneInt(1, 0, 0);
            dueOneInt(1, -1, 1);
            dueOneInt(1, LARGEST_INT, LARGEST_INT);
            dueOneInt(1, LEAST_INT + 1, LARGEST_INT);
            dueOneInt(1, LEAST_INT, LEAST_INT);
            dueOneLong(1, LEAST_INT, 2147483648L);
            dueOneLong(1, LEAST_LONG + 1, LARGEST_LONG);
            dueOneLong(1, LEAST_LONG, LEAST_LONG);
            dueOneReals(1);
        });
        test("2 its sign: -1, 0, 1; of what is no number, of -0, 0: itself (3)", () -> {
            dueOneInt(2, LEAST_INT, -1);
            dueOneInt(2, -1, -1);
            dueOneInt(2, 0, 0);
            dueOneInt(2, 1, 1);
            dueOneInt(2, LARGEST_INT, 1);
            dueOneLong(2, LEAST_LONG, -1);
            dueOneLong(2, 1L << 32, 1);
            dueOneLong(2, LARGEST_LONG, 1);
            dueOneReals(2);
        });
    }

    private static void dueOneInt(int kind, int v, int want) {
        DefaultRules r = new DefaultRules();
        dueWhole(r, "one(" + kind + ") of the int " + v, r.one(kind, whole(r, v, INT)), want);
    }

    private static void dueOneLong(int kind, long v, long want) {
        DefaultRules r = new DefaultRules();
        dueWhole(r, "one(" + kind + ") of the long " + v, r.one(kind, ofLong(r, v)), want);
    }

    private static void dueOneReals(int kind) {
        for (int type = FLOAT; type <= DOUBLE; type++) {
            double[] d = hardReals(type);
            for (int i = 0; i < d.length; i++) {
                DefaultRules r = new DefaultRules();
                int x = ofHardReal(r, type, i);
                double want = kind == 0 ? -d[i] : kind == 1 ? Math.abs(d[i]) : Math.signum(d[i]);
                dueReal(r, "one(" + kind + ") of type " + type + ", " + d[i], r.one(kind, x), type, want);
                dueReal(r, "one(" + kind + ") of the less of it", r.one(kind, r.one(0, x)), type,
                    kind == 0 ? d[i] : kind == 1 ? Math.abs(d[i]) : Math.signum(-d[i]));
            }
        }
    }

    // ---- Terms: TURN

    private static void turns() {
        test("TURN x, of a new GROUP: 0 x (which gets 5) as a number (the new one 3): of its BASE, as Java casts a long", () -> {
            long[] values = {0, LARGEST_INT, LARGEST_INT + 1L, LEAST_INT, LEAST_INT - 1L, 1L << 32, LARGEST_LONG, LEAST_LONG,
                (1L << 24) + 1, (1L << 53) + 1, (1L << 54) + (1L << 30) + 1};
            for (long v : values) {
                DefaultRules r = new DefaultRules();
                int x = ofLong(r, v);
                dueWhole(r, v + " as an int", turned(r, 0, x, INT), (int) v);
                dueWhole(r, v + " as a long", turned(r, 0, x, LONG), v);
                dueFloat(r, v + " as a float", turned(r, 0, x, FLOAT), (float) v);
                dueDouble(r, v + " as a double", turned(r, 0, x, DOUBLE), (double) v);
            }
            int[] ints = {LEAST_INT, -1, 0, LARGEST_INT};
            for (int v : ints) {
                DefaultRules r = new DefaultRules();
                int x = whole(r, v, INT);
                dueWhole(r, v + " of an int, as an int", turned(r, 0, x, INT), v);
                dueWhole(r, v + " of an int, as a long", turned(r, 0, x, LONG), v);
                dueFloat(r, v + " of an int, as a float", turned(r, 0, x, FLOAT), (float) v);
                dueDouble(r, v + " of an int, as a double", turned(r, 0, x, DOUBLE), (double) v);
            }
        });
        test("1 x (7) cut (5), as Java casts a double", () -> {
            for (int type = FLOAT; type <= DOUBLE; type++) {
                double[] d = hardReals(type);
                for (int i = 0; i < d.length; i++) {
                    DefaultRules r = new DefaultRules();
                    dueCut(r, ofHardReal(r, type, i), d[i]);
                }
                cutAboutBounds(type);
            }
        });
        test("2 x (4), by way of a double, as a float or a double (6)", () -> {
            long[] values = {0, LARGEST_LONG, LEAST_LONG, (1L << 24) + 1, (1L << 53) + 1, (1L << 54) + (1L << 30) + 1};
            for (long v : values) {
                DefaultRules r = new DefaultRules();
                int x = ofLong(r, v);
                dueFloat(r, v + " as a float", turned(r, 2, x, FLOAT), (float) (double) v);
                dueDouble(r, v + " as a double", turned(r, 2, x, DOUBLE), (double) v);
            }
            due("one of them is another float straight away",
                (float) values[5] == (float) (double) values[5] ? 0 : 1, 1);
            DefaultRules ofInt = new DefaultRules();
            int least = whole(ofInt, LEAST_INT, INT);
            dueFloat(ofInt, "the least int as a float", turned(ofInt, 2, least, FLOAT), (float) LEAST_INT);
            dueDouble(ofInt, "the least int as a double", turned(ofInt, 2, least, DOUBLE), (double) LEAST_INT);
            for (int type = FLOAT; type <= DOUBLE; type++) {
                double[] d = hardReals(type);
                for (int i = 0; i < d.length; i++) {
                    DefaultRules r = new DefaultRules();
                    int x = ofHardReal(r, type, i);
                    dueFloat(r, d[i] + " as a float", turned(r, 2, x, FLOAT), (float) d[i]);
                    dueDouble(r, d[i] + " as a double", turned(r, 2, x, DOUBLE), d[i]);
                }
            }
        });
    }

    private static int turned(DefaultRules r, int kind, int x, int type) {
        int y = r.turn(kind, x);
        due("tell", r.tell(y, type), 1);
        return y;
    }

    private static void dueCut(DefaultRules r, int x, double v) {
        dueWhole(r, v + " cut to an int", turned(r, 1, x, INT), (int) v);
        dueWhole(r, v + " cut to a long", turned(r, 1, x, LONG), (long) v);
    }

    /** About 1 and about the ends of int and long, where a cast stays at the end. */
    private static void cutAboutBounds(int type) {
        int[] tenths = {-19, -10, -9, 9, 10, 19};
        for (int v : tenths) {
            DefaultRules r = new DefaultRules();
            int x = r.part(v, 1);
            r.tell(x, type);
            dueCut(r, x, type == FLOAT ? (float) (v / 10.0) : v / 10.0);
        }
        int[] powers = {30, 31, 32, 62, 63, 64};
        for (int power : powers) {
            DefaultRules r = new DefaultRules();
            int x = powerOfTwo(r, type, power);
            double v = Math.pow(2.0, power);
            dueCut(r, x, v);
            dueCut(r, r.one(0, x), -v);
            int less = r.two(1, x, whole(r, 1, type));
            double lessOne = type == FLOAT ? (float) v - 1f : v - 1.0;
            dueCut(r, less, lessOne);
            dueCut(r, r.one(0, less), -lessOne);
            dueCut(r, r.one(0, r.two(0, x, whole(r, 1, type))), type == FLOAT ? -((float) v + 1f) : -(v + 1.0));
        }
    }

    // ---- Terms: THE TYPE

    private static void theType() {
        test("what was TOLD, if it has instances of all NEEDS", () -> {
            DefaultRules r = new DefaultRules();
            int x = r.some();
            r.tell(x, 0);
            due("no needs", r.chosen(x), 0);
            r.need(x, 2);
            due("it has 2", r.chosen(x), 0);
            int fixed = whole(r, 1, INT);
            r.fix(fixed);
            due("though it is fixed", r.chosen(fixed), INT);
            r.list(-1);
            due("though the list is empty", r.chosen(fixed), INT);
            r.family(0, false);
            r.instance(8, INT);
            r.need(fixed, 8);
            due("though a need is not standard", r.chosen(fixed), INT);
        });
        test("else REASON 6", () -> {
            DefaultRules r = new DefaultRules();
            int x = r.some();
            r.tell(x, 0);
            r.need(x, 3);
            due("it lacks 3", r.chosen(x), -16);
            r.fix(x);
            due("ahead of 1", r.chosen(x), -16);
            int y = whole(r, 1, LONG);
            r.need(y, 6);
            due("though one of the list has all", r.chosen(y), -16);
            int z = r.some();
            int t = r.type(1);
            r.tell(z, t);
            r.need(z, 0);
            due("ahead of 2", r.chosen(z), -16);
            r.list(-1);
            due("ahead of 4", r.chosen(y), -16);
            r.instance(0, t);
            due("until it has the instance", r.chosen(z), t);
        });
        test("else, if it is FIXED: REASON 1", () -> {
            DefaultRules r = new DefaultRules();
            int x = r.whole(1);
            r.fix(x);
            due("fixed", r.chosen(x), -11);
            int y = r.some();
            r.fix(y);
            due("ahead of 2", r.chosen(y), -11);
            r.family(1 << 3, false);
            r.need(x, 8);
            due("ahead of 3", r.chosen(x), -11);
            r.list(-1);
            due("ahead of 4", r.chosen(x), -11);
            r.wider(true);
            due("by the wider rule as well", r.chosen(y), -11);
        });
        test("By the narrow rule: REASON 2, if no NEED is NUMERIC", () -> {
            DefaultRules r = new DefaultRules();
            int x = r.some();
            due("no need at all", r.chosen(x), -12);
            r.need(x, 0);
            r.need(x, 1);
            r.need(x, 2);
            due("0, 1, 2", r.chosen(x), -12);
            r.family(0, false);
            r.need(x, 8);
            due("ahead of 3", r.chosen(x), -12);
            r.list(-1);
            due("ahead of 4", r.chosen(x), -12);
            int y = r.some();
            r.need(y, 3);
            due("3 is", r.chosen(y), -14);
        });
        test("REASON 3, if one is not STANDARD", () -> {
            DefaultRules r = new DefaultRules();
            r.family(0, false);
            int x = r.whole(1);
            due("all are", r.chosen(x), LONG);
            r.need(x, 8);
            due("8 is not", r.chosen(x), -13);
            r.instance(8, LONG);
            due("though a type has it", r.chosen(x), -13);
            r.list(-1);
            due("ahead of 4", r.chosen(x), -13);
            r.wider(true);
            due("not by the wider rule", r.chosen(x), -14);
            r.list(LONG);
            due("which takes a type", r.chosen(x), LONG);
        });
        test("By the wider rule: REASON 2, if no NEED is NUMERIC or 0, 1, 2", () -> {
            DefaultRules r = new DefaultRules();
            r.wider(true);
            r.family(0, true);
            r.family(1 << 3, false);
            int[] want = {LONG, LONG, LONG, LONG, LONG, LONG, DOUBLE, DOUBLE, -12, -15};
            for (int c = 0; c < 10; c++) {
                int x = r.some();
                due("no need at all", r.chosen(x), -12);
                r.need(x, c);
                due("need " + c, r.chosen(x), want[c]);
            }
            r.list(-1);
            due("ahead of 4", r.chosen(8), -12);
            due("need 0", r.chosen(0), -14);
        });
        test("REASON 4, if THE LIST is empty", () -> {
            DefaultRules r = new DefaultRules();
            int x = r.whole(1);
            r.list(-1);
            due("empty", r.chosen(x), -14);
            r.need(x, 5);
            r.need(x, 6);
            due("ahead of 5", r.chosen(x), -14);
            r.list(0);
            due("not empty any more", r.chosen(x), -15);
        });
        test("else the first one of it that has instances of all NEEDS", () -> {
            DefaultRules r = new DefaultRules();
            int x = r.whole(1);
            int y = r.part(1, 1);
            r.list(-1);
            int[] places = {5, 0, 1, 2, 3, 4};
            int[] ofX = {-15, -15, 1, 1, 1, 1};
            int[] ofY = {-15, -15, -15, -15, 3, 3};
            for (int i = 0; i < 6; i++) {
                r.list(places[i]);
                due("whole, " + (i + 1) + " places", r.chosen(x), ofX[i]);
                due("part, " + (i + 1) + " places", r.chosen(y), ofY[i]);
            }
            DefaultRules last = new DefaultRules();
            int z = last.whole(1);
            last.list(-1);
            for (int i = 0; i < 5; i++) {
                last.list(0);
            }
            due("not one of five", last.chosen(z), -15);
            last.list(3);
            due("the one at the last place", last.chosen(z), 3);
        });
        test("REASON 5, if none has", () -> {
            DefaultRules r = new DefaultRules();
            int x = r.whole(1);
            r.need(x, 5);
            due("2 has", r.chosen(x), LONG);
            r.need(x, 6);
            due("2 has 5, 4 has 6, none has both", r.chosen(x), -15);
            r.wider(true);
            due("by the wider rule as well", r.chosen(x), -15);
        });
    }

    // ---- Terms: NOTHING

    private static void nothing() {
        test("Bits of the double -0.0, and the long -2 to the 63, are the same number", () -> {
            DefaultRules r = new DefaultRules();
            int zero = whole(r, 0, DOUBLE);
            int minusZero = r.one(0, zero);
            dueDouble(r, "-0.0", minusZero, -0.0);
            due("NOTHING, but a value", value(r, minusZero), DefaultRules.NOTHING);
            due("which compares", r.compare(minusZero, zero), 1);
            int least = ofLong(r, LEAST_LONG);
            due("NOTHING, but a value", value(r, least), DefaultRules.NOTHING);
            due("which compares", r.compare(least, least), 1);
            dueWhole(r, "and goes on", r.two(0, least, r.whole(1)), LEAST_LONG + 1);
        });
        test("NOTHING stands for all of them where a long is answered", () -> {
            DefaultRules r = new DefaultRules();
            due("no node", value(r, 0), Long.MIN_VALUE);
            r.some();
            due("no type", value(r, 0), Long.MIN_VALUE);
            due("the constant", DefaultRules.NOTHING, Long.MIN_VALUE);
        });
    }

    // ---- each argument's least and greatest

    private static DefaultRules withNodes(int count) {
        DefaultRules r = new DefaultRules();
        fill(r, count);
        return r;
    }

    private static DefaultRules withLore() {
        DefaultRules r = new DefaultRules();
        for (int i = 0; i < 4; i++) {
            r.family(0, true);
            r.type(2);
        }
        return r;
    }

    private static void arguments() {
        test("-1 there is no such class", () -> {
            bounds("has, class", c -> (long) new DefaultRules().has(c, 0), 0, 7, -1);
            bounds("has, class", c -> (long) withLore().has(c, 0), 0, 11, -1);
            bounds("instance, class", c -> (long) new DefaultRules().instance(c, 0), 0, 7, -1);
            bounds("instance, class", c -> (long) withLore().instance(c, 0), 0, 11, -1);
            bounds("need, class", c -> (long) withNodes(1).need(0, c), 0, 7, -1);
            bounds("need, class", c -> {
                DefaultRules r = withLore();
                return (long) r.need(r.some(), c);
            }, 0, 11, -1);
        });
        test("-1 there is no such type", () -> {
            bounds("has, type", t -> (long) new DefaultRules().has(0, t), 0, 5, -1);
            bounds("has, type", t -> (long) withLore().has(0, t), 0, 9, -1);
            bounds("instance, type", t -> (long) new DefaultRules().instance(0, t), 0, 5, -1);
            bounds("instance, type", t -> (long) withLore().instance(0, t), 0, 9, -1);
            bounds("list, type", t -> (long) new DefaultRules().list(t), -1, 5, -1);
            bounds("list, type", t -> (long) withLore().list(t), -1, 9, -1);
            bounds("tell, type", t -> (long) withNodes(1).tell(0, t), 0, 5, -1);
            bounds("tell, type", t -> {
                DefaultRules r = withLore();
                return (long) r.tell(r.some(), t);
            }, 0, 9, -1);
        });
        test("-1 there is no such node", () -> {
            noSuchNode(() -> withNodes(1), 0);
            noSuchNode(() -> withNodes(7), 6);
            noSuchNode(() -> withNodes(60), 59);
        });
        test("-2 outside its bounds", () -> {
            bounds("type, base", b -> (long) new DefaultRules().type(b), 0, 4, -2);
            bounds("part, k", k -> (long) new DefaultRules().part(1, k), 1, 6, -2);
            bounds("two, kind", k -> (long) withNodes(1).two(k, 0, 0), 0, 7, -2);
            bounds("one, kind", k -> (long) withNodes(1).one(k, 0), 0, 2, -2);
            bounds("turn, kind", k -> (long) withNodes(1).turn(k, 0), 0, 2, -2);
            bounds("needs, what", w -> (long) withNodes(1).needs(0, w), 0, 1, -2);
            bounds("family, one bit", c -> (long) new DefaultRules().family(c < 0 || c > 31 ? -1 : 1 << c, true), 0, 7, -2);
        });
    }

    private static void noSuchNode(Supplier<DefaultRules> state, int greatest) {
        bounds("two, x", x -> (long) state.get().two(0, x, 0), 0, greatest, -1);
        bounds("two, y", y -> (long) state.get().two(0, 0, y), 0, greatest, -1);
        bounds("one, x", x -> (long) state.get().one(0, x), 0, greatest, -1);
        bounds("turn, x", x -> (long) state.get().turn(0, x), 0, greatest, -1);
        bounds("need, x", x -> (long) state.get().need(x, 0), 0, greatest, -1);
        bounds("tell, x", x -> (long) state.get().tell(x, 0), 0, greatest, -1);
        bounds("fix, x", x -> (long) state.get().fix(x), 0, greatest, -1);
        bounds("group, x", x -> (long) state.get().group(x), 0, greatest, -1);
        bounds("needs, x", x -> (long) state.get().needs(x, 0), 0, greatest, -1);
        bounds("chosen, x", x -> (long) state.get().chosen(x), 0, greatest, -1);
        bounds("lacks, x", x -> (long) state.get().lacks(x, 0), 0, greatest, -1);
        bounds("compare, x", x -> (long) state.get().compare(x, 0), 0, greatest, -1);
        bounds("compare, y", y -> (long) state.get().compare(0, y), 0, greatest, -1);
        if (greatest < 59) {
            bounds("value, x", x -> {
                DefaultRules r = new DefaultRules();
                for (int n = 0; n <= greatest; n++) {
                    r.whole(n);
                }
                return value(r, x);
            }, 0, greatest, DefaultRules.NOTHING);
        }
    }

    // ---- promises: what they say beside the terms

    private static void promises() {
        test("Promise 1: No NODES; the narrow rule", () -> {
            DefaultRules used = new DefaultRules();
            used.wider(true);
            used.some();
            used.family(0, true);
            used.type(1);
            used.list(-1);
            DefaultRules r = new DefaultRules();
            due("no nodes", r.group(0), -1);
            due("the narrow rule", r.wider(false), 0);
            due("no class of another object", r.has(8, 0), -1);
            due("no type of another object", r.has(0, 6), -1);
            due("its own list", r.list(0), 3);
            due("its first node", r.some(), 0);
        });
        test("Promise 4: A TYPE has an instance of a class more: 1", BoundaryTests::instances);
        test("Promise 4: a class 3 to 7 with BASE 0, 5 with BASE 3, 4, 6 or 7 with BASE 1, 2", () -> {
            String[] fit = {"11100000", "11111100", "11111100", "11111011", "11111011"};
            for (int base = 0; base <= 4; base++) {
                DefaultRules r = new DefaultRules();
                int t = r.type(base);
                for (int c = 0; c < 8; c++) {
                    int want = fit[base].charAt(c) == '1' ? 1 : -3;
                    due("class " + c + " with base " + base, r.instance(c, t), want);
                    due("which it has then", r.has(c, t), want == 1 ? 1 : 0);
                }
            }
        });
        test("Promise 6: THE LIST has a TYPE more, at its end (twice as well): how many; type -1: it is empty", () -> {
            DefaultRules r = new DefaultRules();
            for (int count = 3; count <= 6; count++) {
                due("twice as well", r.list(2), count);
            }
            due("six are full", r.list(2), -4);
            due("type -1, of a full one", r.list(-1), 0);
            due("type -1, of an empty one", r.list(-1), 0);
            int x = r.whole(1);
            due("no place 0", r.lacks(x, 0), -1);
            for (int count = 1; count <= 6; count++) {
                due("from the start again", r.list(count - 1), count);
            }
            due("six are full again", r.list(0), -4);
            due("place 0 is the first that came", r.lacks(x, 0), 3);
            due("place 5 is the last that came", r.lacks(x, 5), 3);
            due("place 1", r.lacks(x, 1), -3);
            due("no place 6", r.lacks(x, 6), -1);
        });
        test("Promise 7: The wider rule, or the narrow one: which it was: 1, 0", () -> {
            DefaultRules r = new DefaultRules();
            due("narrow at first", r.wider(false), 0);
            due("narrow still", r.wider(true), 0);
            due("wide", r.wider(true), 1);
            due("wide still", r.wider(false), 1);
            due("narrow", r.wider(false), 0);
        });
        test("Promise 14: needs a class, too: 1, 0 it did", () -> {
            DefaultRules r = withLore();
            r.whole(1);
            due("what its kind needs", r.need(0, 3), 0);
            due("the least class", r.need(0, 0), 1);
            due("it did", r.need(0, 0), 0);
            due("the greatest class", r.need(0, 11), 1);
            due("it did", r.need(0, 11), 0);
            due("needs", r.needs(0, 0), 1 << 11 | 1 << 3 | 1);
            due("a class whose supers it did not need", r.need(0, 5), 1);
            due("a super of what it did need", r.need(0, 4), 1);
        });
        test("Promise 15: The GROUP is TOLD a TYPE: 1. -3: another one was", () -> {
            for (int t = 0; t < 10; t++) {
                DefaultRules r = withLore();
                r.some();
                due("tell", r.tell(0, t), 1);
                due("the same one", r.tell(0, t), 1);
                for (int u = 0; u < 10; u++) {
                    due("another one", r.tell(0, u), u == t ? 1 : -3);
                }
                due("which it still is", r.chosen(0), t);
            }
        });
        test("Promise 16: The GROUP is FIXED: 1, 0 it was", () -> {
            DefaultRules r = withNodes(60);
            due("the first", r.fix(0), 1);
            due("it was", r.fix(0), 0);
            due("the last", r.fix(59), 1);
            due("it was", r.fix(59), 0);
            due("one between was not", r.fix(30), 1);
        });
        test("Promise 17: The least NODE of a NODE's GROUP", () -> {
            DefaultRules r = withNodes(30);
            int x = 29;
            for (int n = 28; n >= 0; n--) {
                x = r.two(6, n, x);
                due("the least", r.group(29), n);
                due("of the new one", r.group(x), n);
                due("one that is not of it", n == 0 ? 0 : r.group(n - 1), n == 0 ? 0 : n - 1);
            }
            for (int n = 0; n < 59; n++) {
                due("of all", r.group(n), 0);
            }
        });
        test("Promise 18: NEEDS of the GROUP as they came (what = 0), with ALL SUPERS (1), as bits", () -> {
            DefaultRules r = new DefaultRules();
            r.family(1 << 7, false);
            r.family(1 << 8, true);
            r.family(0, true);
            r.family(0, true);
            r.some();
            due("none", r.needs(0, 0), 0);
            due("none", r.needs(0, 1), 0);
            r.need(0, 9);
            due("one", r.needs(0, 0), 1 << 9);
            due("with all supers", r.needs(0, 1), 0x3db);
            for (int c = 0; c < 12; c++) {
                r.need(0, c);
            }
            due("all", r.needs(0, 0), 0xfff);
            due("all", r.needs(0, 1), 0xfff);
        });
        test("Promise 20: The least class of NEEDS of which the TYPE at a place of THE LIST has no instance", () -> {
            DefaultRules r = withLore();
            r.some();
            r.list(6);
            for (int c = 11; c >= 0; c--) {
                r.need(0, c);
                due("a type without instances", r.lacks(0, 2), c);
            }
            due("long has 0 to 5", r.lacks(0, 0), 6);
            due("double has 0 to 4", r.lacks(0, 1), 5);
        });
        test("Promise 20: place -1: that which was TOLD", () -> {
            DefaultRules r = withLore();
            r.some();
            due("nothing was", r.lacks(0, -1), -3);
            r.tell(0, 6);
            due("it has all, as there is no need", r.lacks(0, -1), -3);
            r.need(0, 11);
            due("it lacks the greatest", r.lacks(0, -1), 11);
            r.need(0, 0);
            due("it lacks the least", r.lacks(0, -1), 0);
            r.instance(0, 6);
            due("it has the least", r.lacks(0, -1), 11);
            r.list(-1);
            due("of an empty list as well", r.lacks(0, -1), 11);
            r.instance(11, 6);
            due("it has all", r.lacks(0, -1), -3);
        });
        test("Promise 20: -1: the place", () -> {
            DefaultRules r = new DefaultRules();
            int x = r.part(1, 1);
            for (int count = 2; count <= 6; count++) {
                for (int place = -3; place <= 8; place++) {
                    int type = place == 1 ? DOUBLE : LONG;
                    int want = place < -1 || place >= count ? -1 : place < 0 || type == DOUBLE ? -3 : 6;
                    due("place " + place + " of " + count, r.lacks(x, place), want);
                }
                r.list(LONG);
            }
            r.list(-1);
            due("place 0 of none", r.lacks(x, 0), -1);
            due("place -1 of none", r.lacks(x, -1), -3);
        });
        test("Promise 21: The value of a NODE, by THE TYPE of its GROUP", BoundaryTests::byTheTypeOfThen);
        test("Promise 21: of INT, LONG the number, of FLOAT its bits as an int, of DOUBLE as a long", BoundaryTests::bits);
        test("Promise 21: of what is no number 0x7fc00000, 0x7ff8000000000000", () -> {
            for (int type = FLOAT; type <= DOUBLE; type++) {
                long want = type == FLOAT ? 0x7fc00000L : 0x7ff8000000000000L;
                DefaultRules r = new DefaultRules();
                int zero = whole(r, 0, type);
                int endless = r.two(3, r.whole(1), zero);
                int less = r.one(0, endless);
                int[] none = {r.two(3, zero, zero), r.two(3, endless, less), r.two(0, endless, less),
                    r.two(1, endless, endless), r.two(2, zero, less), r.two(2, endless, zero)};
                for (int x : none) {
                    due("no number", value(r, x), want);
                    due("less of it", value(r, r.one(0, x)), want);
                    due("without sign", value(r, r.one(1, x)), want);
                    due("its sign", value(r, r.one(2, x)), want);
                    due("and more", value(r, r.two(0, zero, x)), want);
                }
            }
        });
        test("Promise 21: NOTHING: one of these has no TYPE, no BASE, no value", BoundaryTests::noValues);
        test("Promise 21: ArithmeticException: by 0 (where nothing is NOTHING)", BoundaryTests::byZero);
        test("Promise 22: 0 less, 1 the same (also 0 and -0), 2 more, 3 one is no number", BoundaryTests::compares);
        test("Promise 22: -3: not of one GROUP, one has no value, or throws", () -> {
            DefaultRules r = new DefaultRules();
            int x = r.whole(5);
            int y = r.whole(5);
            due("two groups", r.compare(x, y), -3);
            int zero = r.two(1, x, y);
            due("one group", r.compare(x, y), 1);
            int throwing = r.two(5, x, zero);
            due("y throws", r.compare(x, throwing), -3);
            due("x throws", r.compare(throwing, x), -3);
            due("the others do not", r.compare(x, zero), 2);
            int some = r.some();
            r.two(0, x, some);
            due("y has no value", r.compare(x, some), -3);
            due("x has no value", r.compare(some, x), -3);
            due("the others have", r.compare(x, y), 1);
            r.fix(x);
            due("no type", r.compare(x, y), -3);
            due("no type, with itself", r.compare(x, x), -3);
        });
    }

    private static void instances() {
        DefaultRules r = new DefaultRules();
        r.family(1 << 3 | 1 << 2, true);
        r.family(1 << 8, true);
        r.family(0, false);
        int t = r.type(1);
        due("3 needs no other", r.instance(3, t), 1);
        due("3, which it has", r.instance(3, t), -3);
        due("8 lacks 2", r.instance(8, t), -3);
        due("2", r.instance(2, t), 1);
        due("9 lacks 8, though it has 8's", r.instance(9, t), -3);
        due("8", r.instance(8, t), 1);
        due("9", r.instance(9, t), 1);
        due("10 needs no other", r.instance(10, t), 1);
        due("4 lacks 1", r.instance(4, t), -3);
        due("1 lacks 0", r.instance(1, t), -3);
        due("0", r.instance(0, t), 1);
        due("4 lacks 1 still", r.instance(4, t), -3);
        due("1", r.instance(1, t), 1);
        due("4", r.instance(4, t), 1);
        due("10 of unit", r.instance(10, 0), 1);
        due("10 of text", r.instance(10, 5), 1);
        due("8 of unit lacks 3", r.instance(8, 0), -3);
        due("no other type's", r.has(10, 1), 0);
    }

    /** A double that is too small for a float: by itself it is 1, or no number, as the list is then. */
    private static void byTheTypeOfThen() {
        DefaultRules r = new DefaultRules();
        int small = r.part(1, 6);
        for (int i = 0; i < 4; i++) {
            small = r.two(2, small, small);
        }
        int ratio = r.two(3, small, small);
        int cut = r.turn(1, ratio);
        for (int i = 0; i < 2; i++) {
            dueDouble(r, "by a list with 4", ratio, 1.0);
            dueWhole(r, "which is cut", cut, 1);
            r.list(-1);
            dueWhole(r, "by an empty list", ratio, DefaultRules.NOTHING);
            r.list(FLOAT);
            r.list(LONG);
            dueFloat(r, "by a list with 3", ratio, 0 / 0f);
            dueWhole(r, "which is cut", cut, 0);
            r.list(-1);
            r.list(LONG);
            r.list(DOUBLE);
        }
    }

    private static void bits() {
        DefaultRules r = new DefaultRules();
        dueFloat(r, "the least float", powerOfTwo(r, FLOAT, -149), Float.MIN_VALUE);
        due("its bits are a small int", value(r, powerOfTwo(r, FLOAT, -149)), 1);
        int[][] powers = {{-150, -149, -127, -126, -125, -1, 127, 128}, {-1075, -1074, -1073, -1023, -1022, -1, 1023, 1024}};
        for (int type = FLOAT; type <= DOUBLE; type++) {
            for (int power : powers[type - FLOAT]) {
                DefaultRules s = new DefaultRules();
                int x = powerOfTwo(s, type, power);
                double v = Math.pow(2.0, power);
                dueReal(s, "2 to the " + power, x, type, v);
                dueReal(s, "less of 2 to the " + power, s.one(0, x), type, -v);
            }
            aboutTheLeastFullOne(type);
            DefaultRules s = new DefaultRules();
            int x = largest(s, type);
            dueReal(s, "the largest", x, type, type == FLOAT ? Float.MAX_VALUE : Double.MAX_VALUE);
            dueReal(s, "less of the largest", s.one(0, x), type, type == FLOAT ? -Float.MAX_VALUE : -Double.MAX_VALUE);
        }
        DefaultRules s = new DefaultRules();
        int minus = whole(s, -1, FLOAT);
        due("a float's bits as an int are less than 0", value(s, minus), 0xffffffffbf800000L);
        due("-0 of a float is no NOTHING", value(s, s.one(0, s.two(1, minus, minus))), LEAST_INT);
    }

    /** The largest number without a leading 1 in its bits, just below the least one that has it. */
    private static void aboutTheLeastFullOne(int type) {
        DefaultRules r = new DefaultRules();
        int full = powerOfTwo(r, type, type == FLOAT ? -126 : -1022);
        DefaultRules s = new DefaultRules();
        int one = whole(s, 1, type);
        int below = s.two(1, one, powerOfTwo(s, type, type == FLOAT ? -23 : -52));
        int x = s.two(2, below, powerOfTwo(s, type, type == FLOAT ? -126 : -1022));
        due("the least full one", value(r, full), type == FLOAT ? 1L << 23 : 1L << 52);
        due("the largest below it", value(s, x), (type == FLOAT ? 1L << 23 : 1L << 52) - 1);
    }

    private static void noValues() {
        DefaultRules r = new DefaultRules();
        int some = r.some();
        dueWhole(r, "some, no type", some, DefaultRules.NOTHING);
        dueWhole(r, "of some", r.two(0, some, r.whole(1)), DefaultRules.NOTHING);
        dueWhole(r, "of some, the other side", r.two(6, r.whole(1), some), DefaultRules.NOTHING);
        dueWhole(r, "one of some", r.one(1, some), DefaultRules.NOTHING);
        dueWhole(r, "turn of some", r.turn(0, some), DefaultRules.NOTHING);
        int unit = r.some();
        r.tell(unit, 0);
        dueWhole(r, "no base", r.two(7, unit, unit), DefaultRules.NOTHING);
        int x = r.whole(1);
        int y = r.turn(0, x);
        int z = r.turn(2, y);
        dueDouble(r, "all have types", z, 1.0);
        r.fix(x);
        dueWhole(r, "no type, two steps before", z, DefaultRules.NOTHING);
        r.tell(x, INT);
        dueDouble(r, "all have types again", z, 1.0);
        r.fix(z);
        dueWhole(r, "no type itself", z, DefaultRules.NOTHING);
        dueWhole(r, "the one before it has", y, 1);
        int no = whole(r, 1, 5);
        dueWhole(r, "told what lacks 3", no, DefaultRules.NOTHING);
        int w = r.whole(8);
        r.list(-1);
        dueWhole(r, "the list is empty", w, DefaultRules.NOTHING);
        r.list(FLOAT);
        dueFloat(r, "the list is not", w, 8f);
    }

    private static void byZero() {
        DefaultRules r = new DefaultRules();
        int zero = r.whole(0);
        int throwing = r.two(4, zero, zero);
        due("by 0", value(r, throwing), THROWS);
        due("the sum of it", value(r, r.two(0, zero, throwing)), THROWS);
        due("the lesser of it, though it is the other side", value(r, r.two(6, zero, throwing)), THROWS);
        due("the greater of it", value(r, r.two(7, throwing, zero)), THROWS);
        due("the quotient of it by 0", value(r, r.two(4, throwing, zero)), THROWS);
        due("the quotient by it", value(r, r.two(4, zero, throwing)), THROWS);
        due("its sign", value(r, r.one(2, throwing)), THROWS);
        int turned = r.turn(0, throwing);
        due("a turn of it", value(r, turned), THROWS);
        int some = r.some();
        due("nothing by 0", value(r, r.two(5, some, zero)), DefaultRules.NOTHING);
        due("by nothing", value(r, r.two(5, zero, some)), DefaultRules.NOTHING);
        due("by 0 and nothing", value(r, r.two(0, throwing, some)), DefaultRules.NOTHING);
        due("nothing and by 0", value(r, r.two(0, some, throwing)), DefaultRules.NOTHING);
        due("by 0 still", value(r, throwing), THROWS);
        r.fix(turned);
        due("a turn of it, without type", value(r, turned), DefaultRules.NOTHING);
        r.fix(zero);
        due("no type of by 0", value(r, throwing), DefaultRules.NOTHING);
        DefaultRules s = new DefaultRules();
        int x = whole(s, 3, INT);
        int y = s.two(2, s.whole(1 << 16), s.two(2, x, s.whole(1 << 16)));
        int rest = s.two(5, x, y);
        due("by what wraps to 0", value(s, rest), THROWS);
        DefaultRules reals = new DefaultRules();
        int half = reals.part(5, 1);
        dueDouble(reals, "a double by 0 throws not", reals.two(3, half, reals.two(1, half, half)), 1 / 0.0);
    }

    private static void compares() {
        DefaultRules r = new DefaultRules();
        int least = whole(r, LEAST_INT, INT);
        int largest = whole(r, LARGEST_INT, INT);
        r.two(0, least, largest);
        due("the least int is less", r.compare(least, largest), 0);
        due("the largest int is more", r.compare(largest, least), 2);
        due("the same", r.compare(least, least), 1);
        DefaultRules s = new DefaultRules();
        int leastLong = ofLong(s, LEAST_LONG);
        int largestLong = ofLong(s, LARGEST_LONG);
        int nearly = s.two(1, largestLong, s.whole(1));
        int joined = s.two(0, leastLong, largestLong);
        due("the least long is less", s.compare(leastLong, largestLong), 0);
        due("the largest long is more", s.compare(largestLong, leastLong), 2);
        due("1 less, which a double does not tell", s.compare(nearly, largestLong), 0);
        due("the later node first", s.compare(joined, largestLong), 0);
        for (int type = FLOAT; type <= DOUBLE; type++) {
            double[] d = hardReals(type);
            for (int i = 0; i < d.length; i++) {
                for (int j = 0; j < d.length; j++) {
                    if (i == 7 && j == 7) {
                        continue;
                    }
                    DefaultRules t = new DefaultRules();
                    int x = ofHardReal(t, type, i);
                    int y = ofHardReal(t, type, j);
                    t.two(0, x, y);
                    int want = d[i] < d[j] ? 0 : d[i] == d[j] ? 1 : d[i] > d[j] ? 2 : 3;
                    due("compare of type " + type + ", " + d[i] + ", " + d[j], t.compare(x, y), want);
                }
            }
        }
    }
}
