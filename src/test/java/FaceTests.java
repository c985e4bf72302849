import java.lang.reflect.Constructor;
import java.lang.reflect.Field;
import java.lang.reflect.Member;
import java.lang.reflect.Method;
import java.lang.reflect.Modifier;
import java.util.Arrays;
import java.util.TreeSet;

/** The class shows the document's face and no other member but private ones; classes inside are as rule 1 has them. */
public final class FaceTests {
    private static final String[] FACE = {
        "public static final long DefaultRules.NOTHING",
        "public DefaultRules()",
        "public int DefaultRules.family(int,boolean)",
        "public int DefaultRules.type(int)",
        "public int DefaultRules.instance(int,int)",
        "public int DefaultRules.has(int,int)",
        "public int DefaultRules.list(int)",
        "public int DefaultRules.wider(boolean)",
        "public int DefaultRules.whole(int)",
        "public int DefaultRules.part(int,int)",
        "public int DefaultRules.some()",
        "public int DefaultRules.two(int,int,int)",
        "public int DefaultRules.one(int,int)",
        "public int DefaultRules.turn(int,int)",
        "public int DefaultRules.need(int,int)",
        "public int DefaultRules.tell(int,int)",
        "public int DefaultRules.fix(int)",
        "public int DefaultRules.group(int)",
        "public int DefaultRules.needs(int,int)",
        "public int DefaultRules.chosen(int)",
        "public int DefaultRules.lacks(int,int)",
        "public long DefaultRules.value(int) throws java.lang.ArithmeticException",
        "public int DefaultRules.compare(int,int)",
    };

    private static final TreeSet<String> shown = new TreeSet<>();
    private static int wrong = 0;

    private static void look(Member member, String text) {
        if (!Modifier.isPrivate(member.getModifiers()) && !member.isSynthetic()) {
            shown.add(text);
        }
    }

    public static void main(String[] args) {
        for (Field f : DefaultRules.class.getDeclaredFields()) {
            look(f, f.toString());
        }
        for (Constructor<?> c : DefaultRules.class.getDeclaredConstructors()) {
            look(c, c.toString());
        }
        for (Method m : DefaultRules.class.getDeclaredMethods()) {
            look(m, m.toString());
            lookAtName(m);
        }
        TreeSet<String> due = new TreeSet<>(Arrays.asList(FACE));
        if (!shown.equals(due)) {
            complain("the face is " + shown + ", due is " + due);
        }
        lookAtTheClass();
        for (Class<?> inside : DefaultRules.class.getDeclaredClasses()) {
            lookInside(inside);
        }
        if (DefaultRules.NOTHING != Long.MIN_VALUE) {
            complain("NOTHING is " + DefaultRules.NOTHING);
        }
        if (wrong != 0) {
            System.exit(1);
        }
        System.out.println("FaceTests: the face is as due");
    }

    private static void complain(String text) {
        wrong++;
        System.out.println(text);
    }

    private static void lookAtTheClass() {
        int modifiers = DefaultRules.class.getModifiers();
        if (!Modifier.isPublic(modifiers) || !Modifier.isFinal(modifiers)) {
            complain("the class is not public and final");
        }
        if (DefaultRules.class.getSuperclass() != Object.class || DefaultRules.class.getInterfaces().length != 0) {
            complain("the class shows members that it has from others");
        }
        if (!DefaultRules.class.getPackageName().isEmpty()) {
            complain("the class has a package");
        }
    }

    private static void lookInside(Class<?> inside) {
        int modifiers = inside.getModifiers();
        if (Modifier.isPublic(modifiers) || Modifier.isProtected(modifiers) || !Modifier.isStatic(modifiers)) {
            complain(inside + " is not private or package-visible, and static");
        }
        for (Method m : inside.getDeclaredMethods()) {
            lookAtName(m);
        }
    }

    private static void lookAtName(Method m) {
        for (Method ours : DefaultRules.class.getMethods()) {
            if (Modifier.isPrivate(m.getModifiers()) && ours.getName().equals(m.getName())) {
                complain(m + " bears the name of a public method");
            }
        }
    }
}
