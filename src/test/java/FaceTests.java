import java.lang.reflect.Constructor;
import java.lang.reflect.Field;
import java.lang.reflect.Member;
import java.lang.reflect.Method;
import java.lang.reflect.Modifier;
import java.util.Arrays;
import java.util.TreeSet;

/** The class shows the document's face and no other member but private ones. */
public final class FaceTests {
    private static final String[] FACE = {
        "public static final long DefaultRules.NOTHING",
        "public DefaultRules()",
        "public int DefaultRules.family(int,boolean)",
        "public int DefaultRules.type(int)",
        "public int DefaultRules.instance(int,int)",
        "public int DefaultRules.has(int,int)",
        "public int DefaultRules.list(int)",
        "public int DefaultRules.wider(boolean)",
        "public int DefaultRules.whole(int)",
        "public int DefaultRules.part(int,int)",
        "public int DefaultRules.some()",
        "public int DefaultRules.two(int,int,int)",
        "public int DefaultRules.one(int,int)",
        "public int DefaultRules.turn(int,int)",
        "public int DefaultRules.need(int,int)",
        "public int DefaultRules.tell(int,int)",
        "public int DefaultRules.fix(int)",
        "public int DefaultRules.group(int)",
        "public int DefaultRules.needs(int,int)",
        "public int DefaultRules.chosen(int)",
        "public int DefaultRules.lacks(int,int)",
        "public long DefaultRules.value(int) throws java.lang.ArithmeticException",
        "public int DefaultRules.compare(int,int)",
    };

    private static final TreeSet<String> shown = new TreeSet<>();

    private static void look(Member member, String text) {
        if (!Modifier.isPrivate(member.getModifiers()) && !member.isSynthetic()) {
            shown.add(text);
        }
    }

    public static void main(String[] args) {
        for (Field f : DefaultRules.class.getDeclaredFields()) {
            look(f, f.toString());
        }
        for (Constructor<?> c : DefaultRules.class.getDeclaredConstructors()) {
            look(c, c.toString());
        }
        for (Method m : DefaultRules.class.getDeclaredMethods()) {
            look(m, m.toString());
        }
        TreeSet<String> due = new TreeSet<>(Arrays.asList(FACE));
        int modifiers = DefaultRules.class.getModifiers();
        boolean sealed = Modifier.isPublic(modifiers) && Modifier.isFinal(modifiers);
        if (!shown.equals(due) || !sealed) {
            System.out.println("the face is " + shown + ", due is " + due + (sealed ? "" : ", public and final"));
            System.exit(1);
        }
        System.out.println("FaceTests: the face is as due");
    }
}
