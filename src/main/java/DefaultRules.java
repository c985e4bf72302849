/**
 * Which type a number has that no one told, why it has none, and what the numbers then come to.
 * The document's promises say what each public call answers; README.md shows a use.
 */
public final class DefaultRules {
    public static final long NOTHING = Long.MIN_VALUE;

    private static final int NO_SUCH = -1;
    private static final int OUTSIDE = -2;
    private static final int NOT_SO = -3;
    private static final int NO_ROOM = -4;

    private static final int CLASS_ROOM = 12;
    private static final int TYPE_ROOM = 10;
    private static final int LIST_ROOM = 6;
    private static final int NODE_ROOM = 60;

    private static final int EQ = 0;
    private static final int ORD = 1;
    private static final int SHOW = 2;
    private static final int NUM = 3;
    private static final int REAL = 4;
    private static final int INTEGRAL = 5;
    private static final int FRACTIONAL = 6;
    private static final int REALFRAC = 7;

    private static final int NO_BASE = 0;
    private static final int INT = 1;
    private static final int LONG = 2;
    private static final int FLOAT = 3;
    private static final int DOUBLE = 4;

    /** No type: of a group that was not told one, and where a type's number is looked for. */
    private static final int NONE = -1;

    /** What a node is; the kinds of TWO, ONE and TURN are counted on from these. */
    private static final int WHOLE = 0;
    private static final int PART = 1;
    private static final int SOME = 2;
    private static final int TWO = 3;
    private static final int ONE = 11;
    private static final int TURN = 14;

    private static final int PLUS = 0;
    private static final int MINUS = 1;
    private static final int TIMES = 2;
    private static final int QUOTIENT = 4;
    private static final int REST = 5;
    private static final int LESSER = 6;
    private static final int GREATER = 7;

    private static final int NEGATED = 0;
    private static final int WITHOUT_SIGN = 1;

    private static final int TURN_FROM_WHOLE = 0;

    private static final int LARGEST_POWER = 6;

    private static final int[] TWO_NEEDS = {NUM, NUM, NUM, FRACTIONAL, INTEGRAL, INTEGRAL, ORD, ORD};
    private static final int[] ONE_NEEDS = {NUM, NUM, NUM};
    private static final int[] TURN_NEEDS_OF_OLD = {INTEGRAL, REALFRAC, REAL};
    private static final int[] TURN_NEEDS_OF_NEW = {NUM, INTEGRAL, FRACTIONAL};

    private final Lore lore;
    private final Nodes nodes;
    private final Reckoner reckoner;

    public DefaultRules() {
        lore = new Lore();
        nodes = new Nodes();
        reckoner = new Reckoner(lore, nodes);
    }

    public int family(int supers, boolean standard) {
        if (!lore.areClasses(supers)) {
            return OUTSIDE;
        }
        if (lore.classCount >= CLASS_ROOM) {
            return NO_ROOM;
        }
        return lore.addClass(supers, standard);
    }

    public int type(int base) {
        if (base < NO_BASE || base > DOUBLE) {
            return OUTSIDE;
        }
        if (lore.typeCount >= TYPE_ROOM) {
            return NO_ROOM;
        }
        return lore.addType(base, 0);
    }

    public int instance(int family, int type) {
        if (!lore.isClass(family) || !lore.isType(type)) {
            return NO_SUCH;
        }
        return lore.addInstance(family, type) ? 1 : NOT_SO;
    }

    public int has(int family, int type) {
        if (!lore.isClass(family) || !lore.isType(type)) {
            return NO_SUCH;
        }
        return lore.meets(type, 1 << family) ? 1 : 0;
    }

    public int list(int type) {
        if (type == NONE) {
            lore.takenCount = 0;
            return 0;
        }
        if (!lore.isType(type)) {
            return NO_SUCH;
        }
        if (lore.takenCount >= LIST_ROOM) {
            return NO_ROOM;
        }
        return lore.take(type);
    }

    public int wider(boolean on) {
        int before = lore.wide ? 1 : 0;
        lore.wide = on;
        return before;
    }

    public int whole(int v) {
        return addAlone(WHOLE, v, 0, 1 << NUM);
    }

    public int part(int v, int k) {
        if (k < 1 || k > LARGEST_POWER) {
            return OUTSIDE;
        }
        return addAlone(PART, v, k, 1 << FRACTIONAL);
    }

    public int some() {
        return addAlone(SOME, 0, 0, 0);
    }

    public int two(int kind, int x, int y) {
        if (!nodes.isNode(x) || !nodes.isNode(y)) {
            return NO_SUCH;
        }
        if (kind < 0 || kind >= TWO_NEEDS.length) {
            return OUTSIDE;
        }
        if (!nodes.canJoin(x, y)) {
            return NOT_SO;
        }
        if (nodes.count >= NODE_ROOM) {
            return NO_ROOM;
        }
        nodes.join(x, y);
        nodes.addNeed(x, TWO_NEEDS[kind]);
        return nodes.addBeside(x, TWO + kind, x, y);
    }

    public int one(int kind, int x) {
        if (!nodes.isNode(x)) {
            return NO_SUCH;
        }
        if (kind < 0 || kind >= ONE_NEEDS.length) {
            return OUTSIDE;
        }
        if (nodes.count >= NODE_ROOM) {
            return NO_ROOM;
        }
        nodes.addNeed(x, ONE_NEEDS[kind]);
        return nodes.addBeside(x, ONE + kind, x, x);
    }

    public int turn(int kind, int x) {
        if (!nodes.isNode(x)) {
            return NO_SUCH;
        }
        if (kind < 0 || kind >= TURN_NEEDS_OF_NEW.length) {
            return OUTSIDE;
        }
        if (nodes.count >= NODE_ROOM) {
            return NO_ROOM;
        }
        nodes.addNeed(x, TURN_NEEDS_OF_OLD[kind]);
        return addAlone(TURN + kind, x, x, 1 << TURN_NEEDS_OF_NEW[kind]);
    }

    public int need(int x, int family) {
        if (!nodes.isNode(x) || !lore.isClass(family)) {
            return NO_SUCH;
        }
        return nodes.addNeed(x, family) ? 1 : 0;
    }

    public int tell(int x, int type) {
        if (!nodes.isNode(x) || !lore.isType(type)) {
            return NO_SUCH;
        }
        int before = nodes.toldOf(x);
        if (before != NONE && before != type) {
            return NOT_SO;
        }
        nodes.setTold(x, type);
        return 1;
    }

    public int fix(int x) {
        if (!nodes.isNode(x)) {
            return NO_SUCH;
        }
        if (nodes.isFixed(x)) {
            return 0;
        }
        nodes.setFixed(x);
        return 1;
    }

    public int group(int x) {
        return nodes.isNode(x) ? nodes.leastOf(x) : NO_SUCH;
    }

    public int needs(int x, int what) {
        if (!nodes.isNode(x)) {
            return NO_SUCH;
        }
        if (what < 0 || what > 1) {
            return OUTSIDE;
        }
        int asTheyCame = nodes.needsOf(x);
        return what == 0 ? asTheyCame : lore.withAllSupers(asTheyCame);
    }

    public int chosen(int x) {
        return nodes.isNode(x) ? reckoner.typeOf(x) : NO_SUCH;
    }

    public int lacks(int x, int place) {
        if (!nodes.isNode(x) || place < -1 || place >= lore.takenCount) {
            return NO_SUCH;
        }
        int type = place < 0 ? nodes.toldOf(x) : lore.takenAt(place);
        if (type == NONE) {
            return NOT_SO;
        }
        int least = lore.leastLacking(type, nodes.needsOf(x));
        return least < 0 ? NOT_SO : least;
    }

    public long value(int x) throws ArithmeticException {
        if (!nodes.isNode(x)) {
            return NOTHING;
        }
        reckoner.reckonUpTo(x);
        if (reckoner.isByZero(x)) {
            throw new ArithmeticException("by 0");
        }
        return reckoner.isGood(x) ? reckoner.answerOf(x) : NOTHING;
    }

    public int compare(int x, int y) {
        if (!nodes.isNode(x) || !nodes.isNode(y)) {
            return NO_SUCH;
        }
        if (nodes.leastOf(x) != nodes.leastOf(y)) {
            return NOT_SO;
        }
        reckoner.reckonUpTo(Math.max(x, y));
        if (!reckoner.isGood(x) || !reckoner.isGood(y)) {
            return NOT_SO;
        }
        return reckoner.order(x, y);
    }

    private int addAlone(int code, int first, int second, int needBits) {
        if (nodes.count >= NODE_ROOM) {
            return NO_ROOM;
        }
        return nodes.addAlone(code, first, second, needBits);
    }

    /** The classes, the types and their instances, the list of types that are taken, and the rule. */
    private static final class Lore {
        private static final int REASON_BASE = -10;
        private static final int FIXED = 1;
        private static final int NOTHING_TO_GO_BY = 2;
        private static final int NOT_STANDARD = 3;
        private static final int EMPTY_LIST = 4;
        private static final int NONE_HAS_ALL = 5;
        private static final int TOLD_LACKS = 6;

        private static final int WIDE_BITS = 1 << EQ | 1 << ORD | 1 << SHOW;

        private static final int[] FIRST_SUPERS = {
            0, 1 << EQ, 0, 0, 1 << ORD | 1 << NUM, 1 << REAL, 1 << NUM, 1 << REAL | 1 << FRACTIONAL};
        private static final int[] FIRST_BASES = {NO_BASE, INT, LONG, FLOAT, DOUBLE, NO_BASE};
        private static final int[] FIRST_INSTANCES = {0x07, 0x3f, 0x3f, 0xdf, 0xdf, 0x07};

        private final int[] superBits = new int[CLASS_ROOM];
        private final int[] allSuperBits = new int[CLASS_ROOM];
        private int classCount;
        private int standardBits;
        private int numericBits;

        private final int[] bases = new int[TYPE_ROOM];
        private final int[] instanceBits = new int[TYPE_ROOM];
        private int typeCount;

        private final int[] taken = new int[LIST_ROOM];
        private int takenCount;
        private boolean wide;

        Lore() {
            for (int c = 0; c < FIRST_SUPERS.length; c++) {
                addClass(FIRST_SUPERS[c], true);
            }
            for (int t = 0; t < FIRST_BASES.length; t++) {
                addType(FIRST_BASES[t], FIRST_INSTANCES[t]);
            }
            take(LONG);
            take(DOUBLE);
        }

        boolean isClass(int c) {
            return c >= 0 && c < classCount;
        }

        boolean isType(int t) {
            return t >= 0 && t < typeCount;
        }

        boolean areClasses(int bits) {
            return bits >>> classCount == 0;
        }

        int addClass(int supers, boolean standard) {
            int c = classCount;
            superBits[c] = supers;
            allSuperBits[c] = withAllSupers(supers);
            if (standard) {
                standardBits |= 1 << c;
            }
            if (c == NUM || (allSuperBits[c] & 1 << NUM) != 0) {
                numericBits |= 1 << c;
            }
            classCount++;
            return c;
        }

        int addType(int base, int instances) {
            int t = typeCount;
            bases[t] = base;
            instanceBits[t] = instances;
            typeCount++;
            return t;
        }

        boolean addInstance(int c, int t) {
            if (meets(t, 1 << c) || !meets(t, superBits[c]) || !suits(c, bases[t])) {
                return false;
            }
            instanceBits[t] |= 1 << c;
            return true;
        }

        /** The first classes of numbers are bound to bases, so that each of their nodes can be reckoned. */
        private static boolean suits(int c, int base) {
            if (c < NUM || c > REALFRAC) {
                return true;
            }
            if (base == NO_BASE) {
                return false;
            }
            if (c == INTEGRAL) {
                return base == INT || base == LONG;
            }
            if (c == FRACTIONAL || c == REALFRAC) {
                return base == FLOAT || base == DOUBLE;
            }
            return true;
        }

        int withAllSupers(int bits) {
            int all = bits;
            for (int c = 0; c < classCount; c++) {
                if ((bits & 1 << c) != 0) {
                    all |= allSuperBits[c];
                }
            }
            return all;
        }

        boolean meets(int t, int needBits) {
            return (needBits & ~instanceBits[t]) == 0;
        }

        /** The least class of the needs that a type has no instance of, or -1. */
        int leastLacking(int t, int needBits) {
            int lacking = needBits & ~instanceBits[t];
            for (int c = 0; c < classCount; c++) {
                if ((lacking & 1 << c) != 0) {
                    return c;
                }
            }
            return -1;
        }

        int take(int t) {
            taken[takenCount] = t;
            takenCount++;
            return takenCount;
        }

        int takenAt(int place) {
            return taken[place];
        }

        int baseOf(int t) {
            return isType(t) ? bases[t] : NO_BASE;
        }

        /** The type of a group, or -10 less the reason why it has none. */
        int typeFor(int needBits, int told, boolean fixed) {
            if (told != NONE) {
                return meets(told, needBits) ? told : REASON_BASE - TOLD_LACKS;
            }
            if (fixed) {
                return REASON_BASE - FIXED;
            }
            int goingBy = wide ? numericBits | WIDE_BITS : numericBits;
            if ((needBits & goingBy) == 0) {
                return REASON_BASE - NOTHING_TO_GO_BY;
            }
            if (!wide && (needBits & ~standardBits) != 0) {
                return REASON_BASE - NOT_STANDARD;
            }
            return firstTaken(needBits);
        }

        private int firstTaken(int needBits) {
            if (takenCount == 0) {
                return REASON_BASE - EMPTY_LIST;
            }
            for (int i = 0; i < takenCount; i++) {
                if (meets(taken[i], needBits)) {
                    return taken[i];
                }
            }
            return REASON_BASE - NONE_HAS_ALL;
        }
    }

    /** The nodes and their groups; what is known of a group stands at its least node. */
    private static final class Nodes {
        private final int[] codes = new int[NODE_ROOM];
        private final int[] firsts = new int[NODE_ROOM];
        private final int[] seconds = new int[NODE_ROOM];
        private int count;

        private final int[] least = new int[NODE_ROOM];
        private final int[] needBits = new int[NODE_ROOM];
        private final int[] told = new int[NODE_ROOM];
        private final boolean[] fixed = new boolean[NODE_ROOM];

        boolean isNode(int x) {
            return x >= 0 && x < count;
        }

        int addAlone(int code, int first, int second, int bits) {
            int n = count;
            least[n] = n;
            needBits[n] = bits;
            told[n] = NONE;
            return put(code, first, second);
        }

        int addBeside(int x, int code, int first, int second) {
            least[count] = least[x];
            return put(code, first, second);
        }

        private int put(int code, int first, int second) {
            int n = count;
            codes[n] = code;
            firsts[n] = first;
            seconds[n] = second;
            count++;
            return n;
        }

        boolean canJoin(int x, int y) {
            int a = toldOf(x);
            int b = toldOf(y);
            return a == NONE || b == NONE || a == b;
        }

        void join(int x, int y) {
            int kept = Math.min(least[x], least[y]);
            int gone = Math.max(least[x], least[y]);
            if (kept == gone) {
                return;
            }
            needBits[kept] |= needBits[gone];
            if (told[kept] == NONE) {
                told[kept] = told[gone];
            }
            fixed[kept] = fixed[kept] || fixed[gone];
            for (int n = gone; n < count; n++) {
                if (least[n] == gone) {
                    least[n] = kept;
                }
            }
        }

        /** Whether the need is new to the group. */
        boolean addNeed(int x, int c) {
            int before = needBits[least[x]];
            needBits[least[x]] = before | 1 << c;
            return (before & 1 << c) == 0;
        }

        int leastOf(int x) {
            return least[x];
        }

        int needsOf(int x) {
            return needBits[least[x]];
        }

        int toldOf(int x) {
            return told[least[x]];
        }

        void setTold(int x, int t) {
            told[least[x]] = t;
        }

        boolean isFixed(int x) {
            return fixed[least[x]];
        }

        void setFixed(int x) {
            fixed[least[x]] = true;
        }
    }

    /**
     * What the nodes come to. A node comes only of lesser ones, so one pass upward reckons them all.
     * What is no number is kept as a mark, because no float here may ever be NaN; a float is kept in
     * a double, which holds each float as it is.
     */
    private static final class Reckoner {
        private static final int NO_VALUE = 0;
        private static final int BY_ZERO = 1;
        private static final int GOOD = 2;

        private final Lore lore;
        private final Nodes nodes;
        private final int[] states = new int[NODE_ROOM];
        private final int[] nodeBases = new int[NODE_ROOM];
        private final long[] wholes = new long[NODE_ROOM];
        private final double[] reals = new double[NODE_ROOM];
        private final boolean[] noNumber = new boolean[NODE_ROOM];

        Reckoner(Lore lore, Nodes nodes) {
            this.lore = lore;
            this.nodes = nodes;
        }

        int typeOf(int x) {
            return lore.typeFor(nodes.needsOf(x), nodes.toldOf(x), nodes.isFixed(x));
        }

        boolean isGood(int x) {
            return states[x] == GOOD;
        }

        boolean isByZero(int x) {
            return states[x] == BY_ZERO;
        }

        void reckonUpTo(int last) {
            for (int n = 0; n <= last; n++) {
                nodeBases[n] = lore.baseOf(typeOf(n));
                states[n] = stateOf(n);
                if (states[n] == GOOD) {
                    reckon(n);
                }
            }
        }

        private int stateOf(int n) {
            int code = nodes.codes[n];
            if (code == SOME || nodeBases[n] == NO_BASE) {
                return NO_VALUE;
            }
            if (code < TWO) {
                return GOOD;
            }
            int state = Math.min(states[nodes.firsts[n]], states[nodes.seconds[n]]);
            if (state == GOOD && isCutDivision(code) && wholes[nodes.seconds[n]] == 0) {
                return BY_ZERO;
            }
            return state;
        }

        private static boolean isCutDivision(int code) {
            return code == TWO + QUOTIENT || code == TWO + REST;
        }

        private void reckon(int n) {
            int code = nodes.codes[n];
            if (code == WHOLE) {
                putWhole(n, nodes.firsts[n]);
            } else if (code == PART) {
                putReal(n, (double) nodes.firsts[n] / powerOfTen(nodes.seconds[n]));
            } else if (code < ONE) {
                reckonTwo(n, code - TWO, nodes.firsts[n], nodes.seconds[n]);
            } else if (code < TURN) {
                reckonOne(n, code - ONE, nodes.firsts[n]);
            } else {
                reckonTurn(n, code - TURN, nodes.firsts[n]);
            }
        }

        private static double powerOfTen(int k) {
            double power = 1.0;
            for (int i = 0; i < k && i < LARGEST_POWER; i++) {
                power = power * 10.0;
            }
            return power;
        }

        private void reckonTwo(int n, int kind, int x, int y) {
            if (kind == LESSER || kind == GREATER) {
                copy(n, isAtMost(x, y) == (kind == LESSER) ? x : y);
            } else if (!isReal(n)) {
                putWhole(n, ofTwoWholes(kind, wholes[x], wholes[y]));
            } else if (noNumber[x] || noNumber[y]) {
                putNoNumber(n);
            } else {
                putOfTwoReals(n, kind, reals[x], reals[y]);
            }
        }

        private static long ofTwoWholes(int kind, long a, long b) {
            if (kind == PLUS) {
                return a + b;
            }
            if (kind == MINUS) {
                return a - b;
            }
            if (kind == TIMES) {
                return a * b;
            }
            if (b == 0) {
                return 0;
            }
            return kind == REST ? a % b : a / b;
        }

        private void putOfTwoReals(int n, int kind, double a, double b) {
            boolean single = nodeBases[n] == FLOAT;
            if (hasNoAnswer(kind, a, b)) {
                putNoNumber(n);
            } else if (kind == PLUS) {
                putReal(n, single ? (double) ((float) a + (float) b) : a + b);
            } else if (kind == MINUS) {
                putReal(n, single ? (double) ((float) a - (float) b) : a - b);
            } else if (kind == TIMES) {
                putReal(n, single ? (double) ((float) a * (float) b) : a * b);
            } else {
                putReal(n, single ? (double) ((float) a / (float) b) : a / b);
            }
        }

        private static boolean hasNoAnswer(int kind, double a, double b) {
            boolean bothEndless = Bits.isEndless(a) && Bits.isEndless(b);
            if (kind == PLUS) {
                return bothEndless && a != b;
            }
            if (kind == MINUS) {
                return bothEndless && a == b;
            }
            if (kind == TIMES) {
                return a == 0.0 && Bits.isEndless(b) || Bits.isEndless(a) && b == 0.0;
            }
            return bothEndless || a == 0.0 && b == 0.0;
        }

        private void reckonOne(int n, int kind, int x) {
            if (!isReal(n)) {
                putWhole(n, ofOneWhole(kind, wholes[x]));
            } else if (noNumber[x]) {
                putNoNumber(n);
            } else {
                putReal(n, ofOneReal(kind, reals[x]));
            }
        }

        private static long ofOneWhole(int kind, long a) {
            if (kind == NEGATED) {
                return -a;
            }
            if (kind == WITHOUT_SIGN) {
                return a < 0 ? -a : a;
            }
            return a < 0 ? -1 : a > 0 ? 1 : 0;
        }

        private static double ofOneReal(int kind, double a) {
            if (kind == NEGATED) {
                return -a;
            }
            if (kind == WITHOUT_SIGN) {
                return Bits.isNegative(a) ? -a : a;
            }
            if (a == 0.0) {
                return a;
            }
            return a < 0.0 ? -1.0 : 1.0;
        }

        private void reckonTurn(int n, int kind, int x) {
            if (kind == TURN_FROM_WHOLE) {
                putWhole(n, wholes[x]);
            } else if (!isReal(x)) {
                putReal(n, (double) wholes[x]);
            } else if (noNumber[x]) {
                putNoNumber(n);
            } else {
                putReal(n, reals[x]);
            }
        }

        private boolean isReal(int n) {
            return nodeBases[n] == FLOAT || nodeBases[n] == DOUBLE;
        }

        private void copy(int n, int x) {
            wholes[n] = wholes[x];
            reals[n] = reals[x];
            noNumber[n] = noNumber[x];
        }

        /** As Java casts a long to the node's base. */
        private void putWhole(int n, long v) {
            noNumber[n] = false;
            if (nodeBases[n] == INT) {
                wholes[n] = (int) v;
            } else if (nodeBases[n] == LONG) {
                wholes[n] = v;
            } else if (nodeBases[n] == FLOAT) {
                reals[n] = (float) v;
            } else {
                reals[n] = (double) v;
            }
        }

        /** As Java casts a double to the node's base. */
        private void putReal(int n, double v) {
            noNumber[n] = false;
            if (nodeBases[n] == INT) {
                wholes[n] = (int) v;
            } else if (nodeBases[n] == LONG) {
                wholes[n] = (long) v;
            } else if (nodeBases[n] == FLOAT) {
                reals[n] = (float) v;
            } else {
                reals[n] = v;
            }
        }

        /** As Java casts what is no number to the node's base: a whole number is 0 then. */
        private void putNoNumber(int n) {
            wholes[n] = 0;
            noNumber[n] = isReal(n);
        }

        private boolean isAtMost(int x, int y) {
            int order = order(x, y);
            return order == 0 || order == 1;
        }

        /** 0 less, 1 the same, 2 more, 3 one is no number; of two nodes of one group. */
        int order(int x, int y) {
            if (!isReal(x)) {
                return orderOf(wholes[x] < wholes[y], wholes[x] > wholes[y]);
            }
            if (noNumber[x] || noNumber[y]) {
                return 3;
            }
            return orderOf(reals[x] < reals[y], reals[x] > reals[y]);
        }

        private static int orderOf(boolean less, boolean more) {
            return less ? 0 : more ? 2 : 1;
        }

        /** The number, or the bits of the float or double. */
        long answerOf(int x) {
            if (!isReal(x)) {
                return wholes[x];
            }
            if (nodeBases[x] == FLOAT) {
                return noNumber[x] ? Bits.FLOAT_NO_NUMBER : Bits.ofFloat(reals[x]);
            }
            return noNumber[x] ? Bits.DOUBLE_NO_NUMBER : Bits.ofDouble(reals[x]);
        }
    }

    /** The bits of floats and doubles, by arithmetic alone: the library's functions for them are not at hand. */
    private static final class Bits {
        private static final long FLOAT_NO_NUMBER = 0x7fc00000L;
        private static final long DOUBLE_NO_NUMBER = 0x7ff8000000000000L;

        private static final int FLOAT_WIDTH = 23;
        private static final int DOUBLE_WIDTH = 52;

        /** The exponent's bits of a number whose last place is worth 1. */
        private static final int FLOAT_OF_ONES = 150;
        private static final int DOUBLE_OF_ONES = 1075;

        /** The exponent's bits of what is endless. */
        private static final long FLOAT_TOP = 255L;
        private static final long DOUBLE_TOP = 2047L;

        static boolean isEndless(double v) {
            return v > 1.7976931348623157E308 || v < -1.7976931348623157E308;
        }

        /** A comparison does not see the sign of -0; what 1 divided by it comes to shows it. */
        static boolean isNegative(double v) {
            return v < 0.0 || v == 0.0 && 1.0 / v < 0.0;
        }

        static long ofDouble(double v) {
            long bits = isEndless(v)
                ? DOUBLE_TOP << DOUBLE_WIDTH : ofSize(v < 0.0 ? -v : v, DOUBLE_WIDTH, DOUBLE_OF_ONES);
            return isNegative(v) ? bits | Long.MIN_VALUE : bits;
        }

        static long ofFloat(double v) {
            long bits = isEndless(v)
                ? FLOAT_TOP << FLOAT_WIDTH : ofSize(v < 0.0 ? -v : v, FLOAT_WIDTH, FLOAT_OF_ONES);
            return isNegative(v) ? (int) (bits | 1L << 31) : bits;
        }

        /**
         * Scales a size by powers of two, which loses nothing, until its last place is worth 1; where
         * the exponent's least is met before, the number has no leading 1 in its bits.
         */
        private static long ofSize(double size, int width, int ofOnes) {
            double low = (double) (1L << width);
            double leap = 4294967296.0;
            double m = size;
            int exponent = ofOnes;
            for (int i = 0; i < 40 && m >= low * leap; i++) {
                m = m / leap;
                exponent += 32;
            }
            for (int i = 0; i < 40 && exponent > 32 && m < low / leap; i++) {
                m = m * leap;
                exponent -= 32;
            }
            for (int i = 0; i < 40 && m >= low * 2.0; i++) {
                m = m / 2.0;
                exponent++;
            }
            for (int i = 0; i < 40 && exponent > 1 && m < low; i++) {
                m = m * 2.0;
                exponent--;
            }
            return m < low ? (long) m : ((long) exponent << width) + (long) (m - low);
        }
    }
}
