import java.util.ArrayList;
import java.util.List;
import java.util.Random;
import java.util.TreeSet;

/** Long runs of calls on the class and, beside it, on a plain model that reckons with Java's own floats. */
public final class ModelTests {
    private static final int RUNS = 6000;
    private static final int CALLS = 512;

    /** What the model's numbers come to when there is none. */
    private static final class NoValue extends Exception {
        private static final long serialVersionUID = 1L;
    }

    private static final class Family {
        final TreeSet<Integer> supers = new TreeSet<>();
        final boolean standard;

        Family(int bits, boolean standard) {
            for (int i = 0; i < 12; i++) {
                if ((bits >> i & 1) == 1) {
                    supers.add(i);
                }
            }
            this.standard = standard;
        }
    }

    private static final class Type {
        final int base;
        final TreeSet<Integer> instances = new TreeSet<>();

        Type(int base, int... instances) {
            this.base = base;
            for (int c : instances) {
                this.instances.add(c);
            }
        }
    }

    private static final class Group {
        final TreeSet<Integer> members = new TreeSet<>();
        final TreeSet<Integer> needs = new TreeSet<>();
        int told = -1;
        boolean fixed;
    }

    private static final class Node {
        String sort;
        int a;
        int b;
        int[] of = {};
        Group group;
    }

    private static final class Model {
        final List<Family> families = new ArrayList<>();
        final List<Type> types = new ArrayList<>();
        final List<Integer> list = new ArrayList<>(List.of(2, 4));
        final List<Node> nodes = new ArrayList<>();
        boolean wide;

        Model() {
            int[] supers = {0, 1, 0, 0, 2 + 8, 16, 8, 16 + 64};
            for (int bits : supers) {
                families.add(new Family(bits, true));
            }
            types.add(new Type(0, 0, 1, 2));
            types.add(new Type(1, 0, 1, 2, 3, 4, 5));
            types.add(new Type(2, 0, 1, 2, 3, 4, 5));
            types.add(new Type(3, 0, 1, 2, 3, 4, 6, 7));
            types.add(new Type(4, 0, 1, 2, 3, 4, 6, 7));
            types.add(new Type(0, 0, 1, 2));
        }

        boolean noFamily(int c) {
            return c < 0 || c >= families.size();
        }

        boolean noType(int t) {
            return t < 0 || t >= types.size();
        }

        boolean noNode(int x) {
            return x < 0 || x >= nodes.size();
        }

        int family(int supers, boolean standard) {
            for (int i = 0; i < 32; i++) {
                if ((supers >> i & 1) == 1 && noFamily(i)) {
                    return -2;
                }
            }
            if (families.size() == 12) {
                return -4;
            }
            families.add(new Family(supers, standard));
            return families.size() - 1;
        }

        int type(int base) {
            if (base < 0 || base > 4) {
                return -2;
            }
            if (types.size() == 10) {
                return -4;
            }
            types.add(new Type(base));
            return types.size() - 1;
        }

        int instance(int c, int t) {
            if (noFamily(c) || noType(t)) {
                return -1;
            }
            Type type = types.get(t);
            int base = type.base;
            boolean bad = c >= 3 && c <= 7 && base == 0 || c == 5 && base >= 3 || (c == 6 || c == 7) && base >= 1 && base <= 2;
            if (bad || type.instances.contains(c) || !type.instances.containsAll(families.get(c).supers)) {
                return -3;
            }
            type.instances.add(c);
            return 1;
        }

        int has(int c, int t) {
            return noFamily(c) || noType(t) ? -1 : types.get(t).instances.contains(c) ? 1 : 0;
        }

        int list(int t) {
            if (t == -1) {
                list.clear();
                return 0;
            }
            if (noType(t)) {
                return -1;
            }
            if (list.size() == 6) {
                return -4;
            }
            list.add(t);
            return list.size();
        }

        int wider(boolean on) {
            int was = wide ? 1 : 0;
            wide = on;
            return was;
        }

        private int make(Group group, String sort, int a, int b, int... of) {
            Node node = new Node();
            node.sort = sort;
            node.a = a;
            node.b = b;
            node.of = of;
            node.group = group;
            group.members.add(nodes.size());
            nodes.add(node);
            return nodes.size() - 1;
        }

        private Group fresh(int... needs) {
            Group group = new Group();
            for (int c : needs) {
                group.needs.add(c);
            }
            return group;
        }

        int whole(int v) {
            return nodes.size() == 60 ? -4 : make(fresh(3), "whole", v, 0);
        }

        int part(int v, int k) {
            if (k < 1 || k > 6) {
                return -2;
            }
            return nodes.size() == 60 ? -4 : make(fresh(6), "part", v, k);
        }

        int some() {
            return nodes.size() == 60 ? -4 : make(fresh(), "some", 0, 0);
        }

        int two(int kind, int x, int y) {
            if (noNode(x) || noNode(y)) {
                return -1;
            }
            if (kind < 0 || kind > 7) {
                return -2;
            }
            Group a = nodes.get(x).group;
            Group b = nodes.get(y).group;
            if (a.told >= 0 && b.told >= 0 && a.told != b.told) {
                return -3;
            }
            if (nodes.size() == 60) {
                return -4;
            }
            if (a != b) {
                a.needs.addAll(b.needs);
                a.told = Math.max(a.told, b.told);
                a.fixed |= b.fixed;
                for (int n : b.members) {
                    nodes.get(n).group = a;
                    a.members.add(n);
                }
            }
            String[] sorts = {"+", "-", "*", "/", "quot", "rem", "min", "max"};
            int[] needs = {3, 3, 3, 6, 5, 5, 1, 1};
            a.needs.add(needs[kind]);
            return make(a, sorts[kind], 0, 0, x, y);
        }

        int one(int kind, int x) {
            if (noNode(x)) {
                return -1;
            }
            if (kind < 0 || kind > 2) {
                return -2;
            }
            if (nodes.size() == 60) {
                return -4;
            }
            Group group = nodes.get(x).group;
            group.needs.add(3);
            return make(group, new String[] {"neg", "abs", "sign"}[kind], 0, 0, x);
        }

        int turn(int kind, int x) {
            if (noNode(x)) {
                return -1;
            }
            if (kind < 0 || kind > 2) {
                return -2;
            }
            if (nodes.size() == 60) {
                return -4;
            }
            nodes.get(x).group.needs.add(new int[] {5, 7, 4}[kind]);
            return make(fresh(new int[] {3, 5, 6}[kind]), new String[] {"from", "cut", "real"}[kind], 0, 0, x);
        }

        int need(int x, int c) {
            return noNode(x) || noFamily(c) ? -1 : nodes.get(x).group.needs.add(c) ? 1 : 0;
        }

        int tell(int x, int t) {
            if (noNode(x) || noType(t)) {
                return -1;
            }
            Group group = nodes.get(x).group;
            if (group.told >= 0 && group.told != t) {
                return -3;
            }
            group.told = t;
            return 1;
        }

        int fix(int x) {
            if (noNode(x)) {
                return -1;
            }
            Group group = nodes.get(x).group;
            int answer = group.fixed ? 0 : 1;
            group.fixed = true;
            return answer;
        }

        int group(int x) {
            return noNode(x) ? -1 : nodes.get(x).group.members.first();
        }

        private void climb(int c, TreeSet<Integer> into) {
            into.add(c);
            for (int s : families.get(c).supers) {
                climb(s, into);
            }
        }

        int needs(int x, int what) {
            if (noNode(x)) {
                return -1;
            }
            if (what != 0 && what != 1) {
                return -2;
            }
            TreeSet<Integer> all = new TreeSet<>(nodes.get(x).group.needs);
            if (what == 1) {
                for (int c : nodes.get(x).group.needs) {
                    climb(c, all);
                }
            }
            int bits = 0;
            for (int c : all) {
                bits |= 1 << c;
            }
            return bits;
        }

        private boolean numeric(int c) {
            TreeSet<Integer> all = new TreeSet<>();
            climb(c, all);
            return all.contains(3);
        }

        int chosen(int x) {
            if (noNode(x)) {
                return -1;
            }
            Group g = nodes.get(x).group;
            if (g.told >= 0) {
                return types.get(g.told).instances.containsAll(g.needs) ? g.told : -16;
            }
            if (g.fixed) {
                return -11;
            }
            if (g.needs.stream().noneMatch(c -> numeric(c) || wide && c <= 2)) {
                return -12;
            }
            if (!wide && g.needs.stream().anyMatch(c -> !families.get(c).standard)) {
                return -13;
            }
            if (list.isEmpty()) {
                return -14;
            }
            return list.stream().filter(t -> types.get(t).instances.containsAll(g.needs)).findFirst().orElse(-15);
        }

        int lacks(int x, int place) {
            if (noNode(x) || place < -1 || place >= list.size()) {
                return -1;
            }
            Group g = nodes.get(x).group;
            int t = place == -1 ? g.told : list.get(place);
            if (t == -1) {
                return -3;
            }
            return g.needs.stream().filter(c -> !types.get(t).instances.contains(c)).findFirst().orElse(-3);
        }

        /** Integer, Long, Float or Double; throws for what has no value, and for what is by 0. */
        Number number(int x) throws NoValue {
            if (noNode(x)) {
                throw new NoValue();
            }
            boolean[] reached = new boolean[nodes.size()];
            reached[x] = true;
            for (int n = x; n >= 0; n--) {
                if (reached[n]) {
                    Node node = nodes.get(n);
                    int t = chosen(n);
                    if (t < 0 || types.get(t).base == 0 || node.sort.equals("some")) {
                        throw new NoValue();
                    }
                    for (int o : node.of) {
                        reached[o] = true;
                    }
                }
            }
            Number[] numbers = new Number[nodes.size()];
            for (int n = 0; n <= x; n++) {
                if (reached[n]) {
                    Node node = nodes.get(n);
                    Number a = node.of.length > 0 ? numbers[node.of[0]] : null;
                    Number b = node.of.length > 1 ? numbers[node.of[1]] : null;
                    numbers[n] = reckon(node, types.get(chosen(n)).base, a, b);
                }
            }
            return numbers[x];
        }

        private static Number reckon(Node node, int base, Number a, Number b) {
            switch (node.sort) {
                case "whole":
                    return cast((long) node.a, base);
                case "part":
                    return cast(node.a / Math.pow(10.0, node.b), base);
                case "from":
                    return cast(a.longValue(), base);
                case "cut":
                case "real":
                    return cast(a.doubleValue(), base);
                case "min":
                    return atMost(a, b) ? a : b;
                case "max":
                    return atMost(a, b) ? b : a;
                default:
                    return base == 1 ? (Number) ints(node.sort, a, b)
                        : base == 2 ? (Number) longs(node.sort, a, b)
                        : base == 3 ? (Number) floats(node.sort, a, b) : (Number) doubles(node.sort, a, b);
            }
        }

        private static Number cast(long v, int base) {
            return base == 1 ? (Number) (int) v : base == 2 ? (Number) v : base == 3 ? (Number) (float) v : (Number) (double) v;
        }

        private static Number cast(double v, int base) {
            return base == 1 ? (Number) (int) v : base == 2 ? (Number) (long) v : base == 3 ? (Number) (float) v : (Number) v;
        }

        private static boolean atMost(Number a, Number b) {
            return a instanceof Integer || a instanceof Long ? a.longValue() <= b.longValue() : a.doubleValue() <= b.doubleValue();
        }

        private static Integer ints(String sort, Number a, Number b) {
            int x = a.intValue();
            int y = b == null ? 0 : b.intValue();
            return switch (sort) {
                case "+" -> x + y;
                case "-" -> x - y;
                case "*" -> x * y;
                case "quot" -> x / y;
                case "rem" -> x % y;
                case "neg" -> -x;
                case "abs" -> Math.abs(x);
                case "sign" -> Integer.signum(x);
                default -> throw new IllegalStateException(sort);
            };
        }

        private static Long longs(String sort, Number a, Number b) {
            long x = a.longValue();
            long y = b == null ? 0 : b.longValue();
            return switch (sort) {
                case "+" -> x + y;
                case "-" -> x - y;
                case "*" -> x * y;
                case "quot" -> x / y;
                case "rem" -> x % y;
                case "neg" -> -x;
                case "abs" -> Math.abs(x);
                case "sign" -> (long) Long.signum(x);
                default -> throw new IllegalStateException(sort);
            };
        }

        private static Float floats(String sort, Number a, Number b) {
            float x = a.floatValue();
            float y = b == null ? 0 : b.floatValue();
            return switch (sort) {
                case "+" -> x + y;
                case "-" -> x - y;
                case "*" -> x * y;
                case "/" -> x / y;
                case "neg" -> -x;
                case "abs" -> Math.abs(x);
                case "sign" -> Math.signum(x);
                default -> throw new IllegalStateException(sort);
            };
        }

        private static Double doubles(String sort, Number a, Number b) {
            double x = a.doubleValue();
            double y = b == null ? 0 : b.doubleValue();
            return switch (sort) {
                case "+" -> x + y;
                case "-" -> x - y;
                case "*" -> x * y;
                case "/" -> x / y;
                case "neg" -> -x;
                case "abs" -> Math.abs(x);
                case "sign" -> Math.signum(x);
                default -> throw new IllegalStateException(sort);
            };
        }

        String value(int x) {
            try {
                Number n = number(x);
                if (n instanceof Float f) {
                    return "" + Float.floatToIntBits(f);
                }
                return "" + (n instanceof Double d ? Double.doubleToLongBits(d) : n.longValue());
            } catch (NoValue e) {
                return "" + Long.MIN_VALUE;
            } catch (ArithmeticException e) {
                return "throws";
            }
        }

        int compare(int x, int y) {
            if (noNode(x) || noNode(y)) {
                return -1;
            }
            if (nodes.get(x).group != nodes.get(y).group) {
                return -3;
            }
            try {
                Number a = number(x);
                Number b = number(y);
                if (a instanceof Integer || a instanceof Long) {
                    return Long.compare(a.longValue(), b.longValue()) + 1;
                }
                double p = a.doubleValue();
                double q = b.doubleValue();
                return p < q ? 0 : p > q ? 2 : p == q ? 1 : 3;
            } catch (NoValue | ArithmeticException e) {
                return -3;
            }
        }
    }

    private static String value(DefaultRules r, int x) {
        try {
            return "" + r.value(x);
        } catch (ArithmeticException e) {
            return "throws";
        }
    }

    private static int wrong = 0;
    private static final int[] HARD = {0, 1, -1, 2, 10, -10, Integer.MAX_VALUE, Integer.MIN_VALUE, 16777217, 1 << 30};

    private static int number(Random random) {
        int way = random.nextInt(3);
        return way == 0 ? HARD[random.nextInt(HARD.length)] : way == 1 ? random.nextInt(41) - 20 : random.nextInt();
    }

    /** Mostly a node that there is, and of these mostly one of the last. */
    private static int node(Random random, int count) {
        if (count == 0 || random.nextInt(60) == 0) {
            return random.nextInt(70) - 5;
        }
        return random.nextBoolean() ? random.nextInt(count) : Math.max(0, count - 1 - random.nextInt(8));
    }

    private static void due(int run, String call, Object got, Object want) {
        if (!got.toString().equals(want.toString())) {
            wrong++;
            if (wrong <= 20) {
                System.out.println("run " + run + ": " + call + " answered " + got + ", due is " + want);
            }
        }
    }

    public static void main(String[] args) {
        for (int run = 0; run < RUNS && wrong == 0; run++) {
            play(run);
            reckonMuch(run);
        }
        System.out.println(wrong == 0 ? "ModelTests: all answers are as due" : wrong + " answers are not as due");
        if (wrong != 0) {
            System.exit(1);
        }
    }

    private static void play(int run) {
        Random random = new Random(run);
        DefaultRules r = new DefaultRules();
        Model m = new Model();
        boolean calm = run % 3 != 0;
        boolean reals = run % 2 == 0;
        for (int i = 0; i < CALLS; i++) {
            int choice = random.nextInt(100);
            if (choice < 40 && m.nodes.size() < 60 || choice < 3) {
                makeNode(run, random, r, m, reals);
            } else if (choice < (calm ? 43 : 60)) {
                changeLore(run, random, r, m);
            } else if (choice < (calm ? 47 : 68)) {
                changeGroup(run, random, r, m);
            } else {
                ask(run, random, r, m);
            }
        }
        for (int x = 0; x < m.nodes.size(); x++) {
            due(run, "value at last " + x, value(r, x), m.value(x));
        }
    }

    /** Runs in which each node has a value or throws: two groups of a told base, and turns between them. */
    private static void reckonMuch(int run) {
        Random random = new Random(run);
        DefaultRules r = new DefaultRules();
        Model m = new Model();
        int[] types = {1 + random.nextInt(2), 3 + random.nextInt(2)};
        List<List<Integer>> members = List.of(new ArrayList<>(), new ArrayList<>());
        int[] zeros = {random.nextInt(4), random.nextInt(2)};
        while (m.nodes.size() < 60) {
            int side = random.nextInt(2);
            List<Integer> own = members.get(side);
            List<Integer> others = members.get(1 - side);
            int choice = own.size() < 3 ? 0 : random.nextInt(10);
            int x = own.isEmpty() ? 0 : own.get(own.size() - 1 - random.nextInt(Math.min(own.size(), 6)));
            int y = own.isEmpty() ? 0 : own.get(random.nextInt(own.size()));
            int made = m.nodes.size();
            int v = zeros[side]-- == 1 ? 0 : number(random);
            int k = 1 + random.nextInt(6);
            if (choice == 0 && side == 1 && random.nextBoolean()) {
                due(run, "part", r.part(v, k), m.part(v, k));
            } else if (choice == 0) {
                due(run, "whole", r.whole(v), m.whole(v));
            } else if (choice == 1 && !others.isEmpty()) {
                int z = others.get(random.nextInt(others.size()));
                int kind = side == 0 ? 1 : random.nextInt(2) * 2;
                due(run, "turn", r.turn(kind, z), m.turn(kind, z));
            } else if (choice < 4) {
                int kind = random.nextInt(3);
                due(run, "one", r.one(kind, x), m.one(kind, x));
            } else {
                int kind = random.nextInt(8);
                kind = side == 0 && kind == 3 || side == 1 && (kind == 4 || kind == 5) ? 2 : kind;
                due(run, "two", r.two(kind, x, y), m.two(kind, x, y));
            }
            due(run, "tell", r.tell(made, types[side]), m.tell(made, types[side]));
            due(run, "value(" + made + ")", value(r, made), m.value(made));
            due(run, "compare(" + made + ", " + y + ")", r.compare(made, y), m.compare(made, y));
            own.add(made);
        }
    }

    private static void makeNode(int run, Random random, DefaultRules r, Model m, boolean reals) {
        int count = m.nodes.size();
        int x = node(random, count);
        int y = node(random, count);
        int v = number(random);
        int k = random.nextInt(random.nextInt(10) == 0 ? 10 : 6) + (random.nextInt(20) == 0 ? -1 : 1);
        int kind = random.nextInt(40) == 0 ? random.nextInt(12) - 2 : random.nextInt(8);
        if (reals && (kind == 4 || kind == 5) || !reals && kind == 3) {
            kind = random.nextInt(3);
        }
        switch (random.nextInt(count < 6 ? 6 : 16)) {
            case 0, 1, 2 -> due(run, "whole", r.whole(v), m.whole(v));
            case 3, 4 -> {
                if (reals) {
                    due(run, "part", r.part(v, k), m.part(v, k));
                } else {
                    due(run, "whole", r.whole(v), m.whole(v));
                }
            }
            case 5 -> {
                if (random.nextInt(8) == 0) {
                    due(run, "some", r.some(), m.some());
                }
            }
            case 6, 7, 8 -> due(run, "one", r.one(kind % 4, x), m.one(kind % 4, x));
            case 9 -> due(run, "turn", r.turn(kind % 4, x), m.turn(kind % 4, x));
            default -> due(run, "two(" + kind + ", " + x + ", " + y + ")", r.two(kind, x, y), m.two(kind, x, y));
        }
    }

    private static void changeLore(int run, Random random, DefaultRules r, Model m) {
        int c = random.nextInt(14) - 1;
        int t = random.nextInt(12) - 1;
        switch (random.nextInt(12)) {
            case 0 -> {
                int bits = random.nextInt(20) == 0 ? random.nextInt() : random.nextInt(1 << 12) & random.nextInt(1 << 12) & random.nextInt(1 << 12);
                boolean standard = random.nextBoolean();
                due(run, "family", r.family(bits, standard), m.family(bits, standard));
            }
            case 1 -> due(run, "type", r.type(t), m.type(t));
            case 2, 3 -> due(run, "list", r.list(t), m.list(t));
            case 4 -> {
                boolean on = random.nextBoolean();
                due(run, "wider", r.wider(on), m.wider(on));
            }
            default -> due(run, "instance(" + c + ", " + t + ")", r.instance(c, t), m.instance(c, t));
        }
    }

    private static void changeGroup(int run, Random random, DefaultRules r, Model m) {
        int x = node(random, m.nodes.size());
        int c = random.nextInt(14) - 1;
        int t = random.nextInt(3) == 0 ? random.nextInt(12) - 1 : 1 + random.nextInt(4);
        switch (random.nextInt(7)) {
            case 0 -> due(run, "fix", r.fix(x), m.fix(x));
            case 1, 2 -> due(run, "need", r.need(x, c), m.need(x, c));
            default -> due(run, "tell", r.tell(x, t), m.tell(x, t));
        }
    }

    private static void ask(int run, Random random, DefaultRules r, Model m) {
        int x = node(random, m.nodes.size());
        int y = node(random, m.nodes.size());
        int place = random.nextInt(9) - 2;
        int what = random.nextInt(20) == 0 ? random.nextInt(6) - 2 : random.nextInt(2);
        switch (random.nextInt(8)) {
            case 0 -> due(run, "group", r.group(x), m.group(x));
            case 1 -> due(run, "needs", r.needs(x, what), m.needs(x, what));
            case 2 -> due(run, "chosen", r.chosen(x), m.chosen(x));
            case 3 -> due(run, "lacks(" + x + ", " + place + ")", r.lacks(x, place), m.lacks(x, place));
            case 4 -> due(run, "has", r.has(place, y % 11), m.has(place, y % 11));
            case 5 -> due(run, "compare(" + x + ", " + y + ")", r.compare(x, y), m.compare(x, y));
            default -> due(run, "value(" + x + ")", value(r, x), m.value(x));
        }
    }
}
