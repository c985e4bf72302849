import java.util.ArrayList;
import java.util.List;

/**
 * Each refusal of the document: its number, that it changes nothing, and which one comes first where
 * several hold. A row is tried in a state of the object; then that object is asked all that can be
 * asked, beside one of the same state on which the refused call was never made.
 */
public final class RefusalTests {
    private static final int LEAST_INT = Integer.MIN_VALUE;
    private static final int LARGEST_INT = Integer.MAX_VALUE;

    /** What value answers when it throws, so that rows can hold it. */
    private static final long THROWS = 0x7777777777777777L;

    private static int wrong = 0;
    private static int rows = 0;

    private interface Call {
        long on(DefaultRules r);
    }

    private interface State {
        void prepare(DefaultRules r);
    }

    private interface Look {
        void at(DefaultRules r, List<Long> answers);
    }

    private static void due(String what, long got, long want) {
        if (got != want) {
            wrong++;
            System.out.println(what + " answered " + got + ", due is " + want);
        }
    }

    private static long value(DefaultRules r, int x) {
        try {
            return r.value(x);
        } catch (ArithmeticException e) {
            return THROWS;
        }
    }

    // ---- states

    private static void empty(DefaultRules r) {
    }

    /** Classes 0 to 9, types 0 to 8, three places of the list, nodes 0 to 9. */
    private static void few(DefaultRules r) {
        due("class 8", r.family(1 << 3, false), 8);
        due("class 9", r.family(1 << 8 | 1 << 2, true), 9);
        due("type 6", r.type(1), 6);
        due("type 7", r.type(0), 7);
        due("type 8", r.type(3), 8);
        due("6 has 0", r.instance(0, 6), 1);
        due("6 has 3", r.instance(3, 6), 1);
        due("list", r.list(1), 3);
        due("node 0", r.whole(7), 0);
        due("0 is told 1", r.tell(0, 1), 1);
        due("node 1", r.whole(0), 1);
        due("1 is told 2", r.tell(1, 2), 1);
        due("node 2", r.some(), 2);
        due("2 needs 8", r.need(2, 8), 1);
        due("node 3", r.part(15, 1), 3);
        due("node 4", r.whole(3), 4);
        due("node 5, 0", r.two(1, 4, 4), 5);
        due("node 6, by 0", r.two(4, 4, 5), 6);
        due("node 7", r.some(), 7);
        due("7 is fixed", r.fix(7), 1);
        due("node 8, of what throws", r.turn(0, 6), 8);
        due("node 9", r.one(0, 3), 9);
    }

    /** As few, but with no room left: 12 classes, 10 types, 6 places of the list, 60 nodes. */
    private static void full(DefaultRules r) {
        few(r);
        due("class 10", r.family(0, true), 10);
        due("class 11", r.family(1 << 10, true), 11);
        due("type 9", r.type(2), 9);
        due("list, fourth", r.list(5), 4);
        due("list, fifth", r.list(0), 5);
        due("list, sixth", r.list(9), 6);
        for (int n = 10; n < 60; n++) {
            due("node to fill", r.some(), n);
        }
    }

    // ---- what can be asked; each stays, with its state, within 512 calls

    private static void lookAtLore(DefaultRules r, List<Long> answers) {
        for (int c = 0; c < 12; c++) {
            for (int t = 0; t < 10; t++) {
                answers.add((long) r.has(c, t));
            }
        }
        for (int x = 0; x < 10; x++) {
            for (int place = -1; place < 6; place++) {
                answers.add((long) r.lacks(x, place));
            }
        }
        for (int x = 0; x < 60; x++) {
            answers.add((long) r.chosen(x));
        }
        answers.add((long) r.wider(true));
        for (int x = 0; x < 60; x++) {
            answers.add((long) r.chosen(x));
        }
        answers.add((long) r.wider(false));
    }

    private static void lookAtNodes(DefaultRules r, List<Long> answers) {
        for (int x = 0; x < 60; x++) {
            answers.add((long) r.group(x));
            answers.add((long) r.needs(x, 0));
            answers.add((long) r.needs(x, 1));
            answers.add(value(r, x));
            answers.add((long) r.compare(x, x + 1));
        }
    }

    private static void lookAtGroups(DefaultRules r, List<Long> answers) {
        for (int x = 0; x < 60; x++) {
            answers.add((long) r.lacks(x, -1));
            answers.add((long) r.fix(x));
            answers.add((long) r.tell(x, 5));
            answers.add((long) r.tell(x, 1));
            answers.add((long) r.chosen(x));
        }
    }

    private static void lookAtWhatComesNext(DefaultRules r, List<Long> answers) {
        answers.add((long) r.family(1 << 2, false));
        answers.add((long) r.type(3));
        for (int c = 0; c < 12; c++) {
            for (int t = 0; t < 10; t++) {
                answers.add((long) r.instance(c, t));
            }
        }
        answers.add((long) r.list(1));
        int x = r.whole(9);
        int y = r.part(25, 1);
        int z = r.some();
        int both = r.two(0, x, y);
        int[] made = {x, y, z, both, r.one(0, both), r.turn(1, both)};
        for (int n : made) {
            answers.add((long) n);
            answers.add((long) r.group(n));
            answers.add((long) r.fix(n));
            for (int c = 0; c < 12; c++) {
                answers.add((long) r.need(n, c));
                answers.add((long) r.needs(n, 1));
                answers.add((long) r.chosen(n));
            }
        }
        answers.add((long) r.list(-1));
        answers.add((long) r.list(3));
    }

    private static void lookAtLaterValues(DefaultRules r, List<Long> answers) {
        answers.add((long) r.list(-1));
        answers.add((long) r.list(3));
        answers.add((long) r.list(1));
        for (int x = 0; x < 60; x++) {
            answers.add(value(r, x));
            answers.add((long) r.compare(0, x));
            answers.add((long) r.compare(x, x));
        }
    }

    private static final Look[] LOOKS = {
        RefusalTests::lookAtLore, RefusalTests::lookAtNodes, RefusalTests::lookAtGroups,
        RefusalTests::lookAtWhatComesNext, RefusalTests::lookAtLaterValues};

    // ---- rows

    private static void row(State state, String call, Call refused, long number) {
        rows++;
        for (int i = 0; i < LOOKS.length; i++) {
            DefaultRules plain = new DefaultRules();
            state.prepare(plain);
            DefaultRules tried = new DefaultRules();
            state.prepare(tried);
            due(call, refused.on(tried), number);
            due(call + ", again", refused.on(tried), number);
            List<Long> want = new ArrayList<>();
            List<Long> got = new ArrayList<>();
            LOOKS[i].at(plain, want);
            LOOKS[i].at(tried, got);
            if (!want.equals(got)) {
                wrong++;
                System.out.println(call + " changed something: look " + i + " saw " + got + ", due is " + want);
            }
        }
    }

    private static void inEmpty(String call, Call refused, long number) {
        row(RefusalTests::empty, call + " of a new object", refused, number);
    }

    private static void inFew(String call, Call refused, long number) {
        row(RefusalTests::few, call, refused, number);
    }

    private static void inFull(String call, Call refused, long number) {
        row(RefusalTests::full, call + " without room", refused, number);
    }

    public static void main(String[] args) {
        family();
        type();
        instance();
        has();
        list();
        whole();
        part();
        some();
        two();
        twoOfSeveral();
        one();
        turn();
        need();
        tell();
        fix();
        group();
        needs();
        chosen();
        lacks();
        value();
        compare();
        System.out.println(wrong == 0 ? "RefusalTests: all " + rows + " refusals are as due" : wrong + " answers are not as due");
        if (wrong != 0) {
            System.exit(1);
        }
    }

    /** Promise 2: -2: a bit that is no class; -4. */
    private static void family() {
        inEmpty("family(bit 8)", r -> r.family(1 << 8, true), -2);
        inEmpty("family(bit 31)", r -> r.family(LEAST_INT, true), -2);
        inEmpty("family(all bits)", r -> r.family(-1, false), -2);
        inFew("family(bit 10)", r -> r.family(1 << 10, true), -2);
        inFew("family(bit 10 and others)", r -> r.family(0x7ff, false), -2);
        inFew("family(bit 31)", r -> r.family(LEAST_INT, false), -2);
        inFull("family(none)", r -> r.family(0, true), -4);
        inFull("family(all classes)", r -> r.family(0xfff, false), -4);
        inFull("family(bit 12), -2 ahead of -4", r -> r.family(1 << 12, true), -2);
        inFull("family(all bits), -2 ahead of -4", r -> r.family(-1, true), -2);
    }

    /** Promise 3: -2: BASE; -4. */
    private static void type() {
        inEmpty("type(-1)", r -> r.type(-1), -2);
        inEmpty("type(5)", r -> r.type(5), -2);
        inFew("type(least int)", r -> r.type(LEAST_INT), -2);
        inFew("type(largest int)", r -> r.type(LARGEST_INT), -2);
        inFull("type(0)", r -> r.type(0), -4);
        inFull("type(4)", r -> r.type(4), -4);
        inFull("type(-1), -2 ahead of -4", r -> r.type(-1), -2);
        inFull("type(5), -2 ahead of -4", r -> r.type(5), -2);
    }

    /** Promise 4: -1; -3: it has it, or lacks one of a SUPER; or its BASE is not fit for the class. */
    private static void instance() {
        int[] noClasses = {LEAST_INT, -1, 10, 32, 64, LARGEST_INT};
        int[] noTypes = {LEAST_INT, -1, 9, 32, LARGEST_INT};
        for (int c : noClasses) {
            inFew("instance(" + c + ", 0)", r -> r.instance(c, 0), -1);
            inFew("instance(" + c + ", -1)", r -> r.instance(c, -1), -1);
        }
        for (int t : noTypes) {
            inFew("instance(0, " + t + ")", r -> r.instance(0, t), -1);
        }
        inEmpty("instance(8, 1)", r -> r.instance(8, 1), -1);
        inEmpty("instance(0, 6)", r -> r.instance(0, 6), -1);
        inFull("instance(12, 0)", r -> r.instance(12, 0), -1);
        inFull("instance(0, 10)", r -> r.instance(0, 10), -1);
        inFew("instance(0, 6), which it has", r -> r.instance(0, 6), -3);
        inEmpty("instance(5, 1), which it has", r -> r.instance(5, 1), -3);
        inEmpty("instance(7, 4), which it has", r -> r.instance(7, 4), -3);
        inFew("instance(1, 8), which lacks 0", r -> r.instance(1, 8), -3);
        inFew("instance(4, 6), which has 3, but lacks 1", r -> r.instance(4, 6), -3);
        inFew("instance(9, 1), which has 2, but lacks 8", r -> r.instance(9, 1), -3);
        inFew("instance(8, 0), which lacks 3", r -> r.instance(8, 0), -3);
        for (int c = 3; c <= 7; c++) {
            int family = c;
            inFew("instance(" + c + ", 7), of BASE 0", r -> r.instance(family, 7), -3);
            inFew("instance(" + c + ", 0), of no BASE", r -> r.instance(family, 0), -3);
            inFew("instance(" + c + ", 5), of no BASE", r -> r.instance(family, 5), -3);
        }
        inEmpty("instance(5, 3), of BASE 3", r -> r.instance(5, 3), -3);
        inEmpty("instance(5, 4), of BASE 4", r -> r.instance(5, 4), -3);
        for (int c = 6; c <= 7; c++) {
            int family = c;
            inEmpty("instance(" + c + ", 1), of BASE 1", r -> r.instance(family, 1), -3);
            inEmpty("instance(" + c + ", 2), of BASE 2", r -> r.instance(family, 2), -3);
        }
        inFew("instance(6, 6), which has 3, of BASE 1", r -> r.instance(6, 6), -3);
    }

    /** Promise 5: -1. */
    private static void has() {
        int[] noClasses = {LEAST_INT, -1, 10, 32, LARGEST_INT};
        int[] noTypes = {LEAST_INT, -1, 9, LARGEST_INT};
        for (int c : noClasses) {
            inFew("has(" + c + ", 0)", r -> r.has(c, 0), -1);
        }
        for (int t : noTypes) {
            inFew("has(0, " + t + ")", r -> r.has(0, t), -1);
        }
        inEmpty("has(8, 0)", r -> r.has(8, 0), -1);
        inEmpty("has(0, 6)", r -> r.has(0, 6), -1);
        inFull("has(12, 0)", r -> r.has(12, 0), -1);
        inFull("has(0, 10)", r -> r.has(0, 10), -1);
    }

    /** Promise 6: -1; -4: 6. */
    private static void list() {
        inEmpty("list(6)", r -> r.list(6), -1);
        inEmpty("list(-2)", r -> r.list(-2), -1);
        inFew("list(9)", r -> r.list(9), -1);
        inFew("list(least int)", r -> r.list(LEAST_INT), -1);
        inFew("list(largest int)", r -> r.list(LARGEST_INT), -1);
        inFull("list(0)", r -> r.list(0), -4);
        inFull("list(9)", r -> r.list(9), -4);
        inFull("list(10), -1 ahead of -4", r -> r.list(10), -1);
        inFull("list(-2), -1 ahead of -4", r -> r.list(-2), -1);
    }

    /** Promise 8: -4. */
    private static void whole() {
        inFull("whole(1)", r -> r.whole(1), -4);
        inFull("whole(least int)", r -> r.whole(LEAST_INT), -4);
    }

    /** Promise 9: -2; -4. */
    private static void part() {
        int[] outside = {LEAST_INT, -1, 0, 7, LARGEST_INT};
        for (int k : outside) {
            inEmpty("part(1, " + k + ")", r -> r.part(1, k), -2);
            inFew("part(1, " + k + ")", r -> r.part(1, k), -2);
            inFull("part(1, " + k + "), -2 ahead of -4", r -> r.part(1, k), -2);
        }
        inFull("part(1, 1)", r -> r.part(1, 1), -4);
        inFull("part(1, 6)", r -> r.part(1, 6), -4);
    }

    /** Promise 10: -4. */
    private static void some() {
        inFull("some()", r -> r.some(), -4);
    }

    /** Promise 11: -1; -2: kind; -3: both GROUPS were TOLD unlike TYPES; -4. */
    private static void two() {
        int[] noNodes = {LEAST_INT, -1, 10, LARGEST_INT};
        for (int n : noNodes) {
            inFew("two(0, " + n + ", 2)", r -> r.two(0, n, 2), -1);
            inFew("two(0, 2, " + n + ")", r -> r.two(0, 2, n), -1);
            inFew("two(0, " + n + ", " + n + ")", r -> r.two(0, n, n), -1);
        }
        inEmpty("two(0, 0, 0)", r -> r.two(0, 0, 0), -1);
        inFull("two(0, 60, 2)", r -> r.two(0, 60, 2), -1);
        int[] noKinds = {LEAST_INT, -1, 8, LARGEST_INT};
        for (int kind : noKinds) {
            inFew("two(" + kind + ", 2, 3)", r -> r.two(kind, 2, 3), -2);
        }
        for (int k = 0; k <= 7; k++) {
            int kind = k;
            inFew("two(" + k + ") of unlike ones", r -> r.two(kind, 0, 1), -3);
            inFew("two(" + k + ") of unlike ones, turned about", r -> r.two(kind, 1, 0), -3);
            inFull("two(" + k + ")", r -> r.two(kind, 2, 3), -4);
        }
        inFull("two(0) of one group", r -> r.two(0, 4, 5), -4);
        inFull("two(0) of a told and a free one", r -> r.two(0, 0, 2), -4);
        inFull("two(0) of a fixed and a free one", r -> r.two(0, 2, 7), -4);
    }

    /** Of several refusals the first: no node, no kind, unlike types, no room. */
    private static void twoOfSeveral() {
        int[] kinds = {-1, 0, 7, 8};
        int[] nodes = {-1, 0, 1, 2, 60};
        for (int kind : kinds) {
            for (int x : nodes) {
                for (int y : nodes) {
                    boolean noNode = x < 0 || y < 0 || x == 60 || y == 60;
                    boolean noKind = kind < 0 || kind > 7;
                    boolean unlike = x + y == 1;
                    int first = noNode ? -1 : noKind ? -2 : unlike ? -3 : -4;
                    inFull("two(" + kind + ", " + x + ", " + y + ")", r -> r.two(kind, x, y), first);
                    if (first != -4) {
                        inFew("two(" + kind + ", " + x + ", " + y + ")", r -> r.two(kind, x, y), first);
                    }
                }
            }
        }
    }

    /** Promise 12: -1; -2; -4. */
    private static void one() {
        inEmpty("one(0, 0)", r -> r.one(0, 0), -1);
        int[] noNodes = {LEAST_INT, -1, 10, LARGEST_INT};
        int[] noKinds = {LEAST_INT, -1, 3, LARGEST_INT};
        for (int n : noNodes) {
            inFew("one(0, " + n + ")", r -> r.one(0, n), -1);
            inFew("one(3, " + n + "), -1 ahead of -2", r -> r.one(3, n), -1);
        }
        for (int kind : noKinds) {
            inFew("one(" + kind + ", 2)", r -> r.one(kind, 2), -2);
            inFull("one(" + kind + ", 2), -2 ahead of -4", r -> r.one(kind, 2), -2);
            inFull("one(" + kind + ", 60), -1 ahead of all", r -> r.one(kind, 60), -1);
        }
        inFull("one(0, 60), -1 ahead of -4", r -> r.one(0, 60), -1);
        inFull("one(0, -1), -1 ahead of -4", r -> r.one(0, -1), -1);
        for (int k = 0; k <= 2; k++) {
            int kind = k;
            inFull("one(" + k + ", 2)", r -> r.one(kind, 2), -4);
            inFull("one(" + k + ", 59)", r -> r.one(kind, 59), -4);
        }
    }

    /** Promise 13: -1; -2; -4. */
    private static void turn() {
        inEmpty("turn(0, 0)", r -> r.turn(0, 0), -1);
        int[] noNodes = {LEAST_INT, -1, 10, LARGEST_INT};
        int[] noKinds = {LEAST_INT, -1, 3, LARGEST_INT};
        for (int n : noNodes) {
            inFew("turn(0, " + n + ")", r -> r.turn(0, n), -1);
            inFew("turn(3, " + n + "), -1 ahead of -2", r -> r.turn(3, n), -1);
        }
        for (int kind : noKinds) {
            inFew("turn(" + kind + ", 2)", r -> r.turn(kind, 2), -2);
            inFull("turn(" + kind + ", 2), -2 ahead of -4", r -> r.turn(kind, 2), -2);
            inFull("turn(" + kind + ", 60), -1 ahead of all", r -> r.turn(kind, 60), -1);
        }
        inFull("turn(0, 60), -1 ahead of -4", r -> r.turn(0, 60), -1);
        inFull("turn(0, -1), -1 ahead of -4", r -> r.turn(0, -1), -1);
        for (int k = 0; k <= 2; k++) {
            int kind = k;
            inFull("turn(" + k + ", 2)", r -> r.turn(kind, 2), -4);
            inFull("turn(" + k + ", 59)", r -> r.turn(kind, 59), -4);
        }
    }

    /** Promise 14: -1. */
    private static void need() {
        int[] noNodes = {LEAST_INT, -1, 10, LARGEST_INT};
        int[] noClasses = {LEAST_INT, -1, 10, 32, LARGEST_INT};
        inEmpty("need(0, 0)", r -> r.need(0, 0), -1);
        for (int n : noNodes) {
            inFew("need(" + n + ", 0)", r -> r.need(n, 0), -1);
            inFew("need(" + n + ", -1)", r -> r.need(n, -1), -1);
        }
        for (int c : noClasses) {
            inFew("need(2, " + c + ")", r -> r.need(2, c), -1);
        }
        inFull("need(60, 0)", r -> r.need(60, 0), -1);
        inFull("need(2, 12)", r -> r.need(2, 12), -1);
    }

    /** Promise 15: -1; -3: another one was. */
    private static void tell() {
        int[] noNodes = {LEAST_INT, -1, 10, LARGEST_INT};
        int[] noTypes = {LEAST_INT, -1, 9, LARGEST_INT};
        inEmpty("tell(0, 0)", r -> r.tell(0, 0), -1);
        for (int n : noNodes) {
            inFew("tell(" + n + ", 1)", r -> r.tell(n, 1), -1);
            inFew("tell(" + n + ", -1)", r -> r.tell(n, -1), -1);
        }
        for (int t : noTypes) {
            inFew("tell(2, " + t + ")", r -> r.tell(2, t), -1);
            inFew("tell(0, " + t + "), -1 ahead of -3", r -> r.tell(0, t), -1);
        }
        for (int t = 0; t < 9; t++) {
            int type = t;
            if (t != 1) {
                inFew("tell(0, " + t + "), which was told 1", r -> r.tell(0, type), -3);
            }
        }
        inFull("tell(60, 1)", r -> r.tell(60, 1), -1);
        inFull("tell(2, 10)", r -> r.tell(2, 10), -1);
        inFull("tell(1, 1), which was told 2", r -> r.tell(1, 1), -3);
    }

    /** Promise 16: -1. */
    private static void fix() {
        inEmpty("fix(0)", r -> r.fix(0), -1);
        int[] noNodes = {LEAST_INT, -1, 10, LARGEST_INT};
        for (int n : noNodes) {
            inFew("fix(" + n + ")", r -> r.fix(n), -1);
        }
        inFull("fix(60)", r -> r.fix(60), -1);
    }

    /** Promise 17: -1. */
    private static void group() {
        inEmpty("group(0)", r -> r.group(0), -1);
        int[] noNodes = {LEAST_INT, -1, 10, LARGEST_INT};
        for (int n : noNodes) {
            inFew("group(" + n + ")", r -> r.group(n), -1);
        }
        inFull("group(60)", r -> r.group(60), -1);
    }

    /** Promise 18: -1; -2. */
    private static void needs() {
        inEmpty("needs(0, 0)", r -> r.needs(0, 0), -1);
        int[] noNodes = {LEAST_INT, -1, 10, LARGEST_INT};
        int[] outside = {LEAST_INT, -1, 2, LARGEST_INT};
        for (int n : noNodes) {
            inFew("needs(" + n + ", 0)", r -> r.needs(n, 0), -1);
            inFew("needs(" + n + ", 1)", r -> r.needs(n, 1), -1);
            inFew("needs(" + n + ", 2), -1 ahead of -2", r -> r.needs(n, 2), -1);
        }
        for (int what : outside) {
            inFew("needs(0, " + what + ")", r -> r.needs(0, what), -2);
        }
        inFull("needs(60, 0)", r -> r.needs(60, 0), -1);
        inFull("needs(59, 2)", r -> r.needs(59, 2), -2);
    }

    /** Promise 19: -1. */
    private static void chosen() {
        inEmpty("chosen(0)", r -> r.chosen(0), -1);
        int[] noNodes = {LEAST_INT, -1, 10, LARGEST_INT};
        for (int n : noNodes) {
            inFew("chosen(" + n + ")", r -> r.chosen(n), -1);
        }
        inFull("chosen(60)", r -> r.chosen(60), -1);
    }

    /** Promise 20: -3: it has all; nothing was TOLD. -1: the node, the place. */
    private static void lacks() {
        inEmpty("lacks(0, 0)", r -> r.lacks(0, 0), -1);
        inEmpty("lacks(0, -1)", r -> r.lacks(0, -1), -1);
        int[] noNodes = {LEAST_INT, -1, 10, LARGEST_INT};
        int[] noPlaces = {LEAST_INT, -2, 3, 6, LARGEST_INT};
        for (int n : noNodes) {
            inFew("lacks(" + n + ", 0)", r -> r.lacks(n, 0), -1);
            inFew("lacks(" + n + ", -1), -1 ahead of -3", r -> r.lacks(n, -1), -1);
            inFew("lacks(" + n + ", 3)", r -> r.lacks(n, 3), -1);
        }
        for (int place : noPlaces) {
            inFew("lacks(0, " + place + ")", r -> r.lacks(0, place), -1);
            inFew("lacks(2, " + place + ")", r -> r.lacks(2, place), -1);
        }
        inFew("lacks(2, -1), nothing told", r -> r.lacks(2, -1), -3);
        inFew("lacks(0, -1), it has all", r -> r.lacks(0, -1), -3);
        inFew("lacks(0, 0), it has all", r -> r.lacks(0, 0), -3);
        inFew("lacks(0, 2), it has all", r -> r.lacks(0, 2), -3);
        inFew("lacks(7, 0), no need", r -> r.lacks(7, 0), -3);
        inFull("lacks(60, 0)", r -> r.lacks(60, 0), -1);
        inFull("lacks(59, 6)", r -> r.lacks(59, 6), -1);
        inFull("lacks(59, 5), no need", r -> r.lacks(59, 5), -3);
    }

    /** Promise 21: NOTHING stands for all of them; and what throws changes nothing either. */
    private static void value() {
        inEmpty("value(0)", r -> value(r, 0), DefaultRules.NOTHING);
        int[] noNodes = {LEAST_INT, -1, 10, LARGEST_INT};
        for (int n : noNodes) {
            inFew("value(" + n + ")", r -> value(r, n), DefaultRules.NOTHING);
        }
        inFew("value(2), some", r -> value(r, 2), DefaultRules.NOTHING);
        inFew("value(7), fixed", r -> value(r, 7), DefaultRules.NOTHING);
        inFew("value(6), by 0", r -> value(r, 6), THROWS);
        inFew("value(8), of what throws", r -> value(r, 8), THROWS);
        inFull("value(60)", r -> value(r, 60), DefaultRules.NOTHING);
        inFull("value(59), some", r -> value(r, 59), DefaultRules.NOTHING);
    }

    /** Promise 22: -1; -3: not of one GROUP, one has no value, or throws. */
    private static void compare() {
        inEmpty("compare(0, 0)", r -> r.compare(0, 0), -1);
        int[] noNodes = {LEAST_INT, -1, 10, LARGEST_INT};
        for (int n : noNodes) {
            inFew("compare(" + n + ", 0)", r -> r.compare(n, 0), -1);
            inFew("compare(0, " + n + ")", r -> r.compare(0, n), -1);
            inFew("compare(" + n + ", 2), -1 ahead of -3", r -> r.compare(n, 2), -1);
            inFew("compare(2, " + n + "), -1 ahead of -3", r -> r.compare(2, n), -1);
        }
        inFew("compare(0, 1), two groups", r -> r.compare(0, 1), -3);
        inFew("compare(3, 4), two groups", r -> r.compare(3, 4), -3);
        inFew("compare(2, 2), no value", r -> r.compare(2, 2), -3);
        inFew("compare(7, 7), no value", r -> r.compare(7, 7), -3);
        inFew("compare(4, 6), y throws", r -> r.compare(4, 6), -3);
        inFew("compare(6, 4), x throws", r -> r.compare(6, 4), -3);
        inFew("compare(6, 6), both throw", r -> r.compare(6, 6), -3);
        inFew("compare(8, 8), of what throws", r -> r.compare(8, 8), -3);
        inFull("compare(60, 0)", r -> r.compare(60, 0), -1);
        inFull("compare(0, 60)", r -> r.compare(0, 60), -1);
        inFull("compare(58, 59), two groups", r -> r.compare(58, 59), -3);
    }
}
