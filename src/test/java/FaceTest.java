import java.lang.reflect.Constructor;
import java.lang.reflect.Field;
import java.lang.reflect.Method;
import java.lang.reflect.Modifier;
import java.util.Arrays;
import java.util.HashSet;
import java.util.Set;
import java.util.TreeSet;

/** The class has the document's face and no other member that can be seen from outside. */
public final class FaceTest {
    private static final String[] FACE = {
        "public static final int NONE",
        "public SelectConfig()",
        "public int setting(int,int)",
        "public int alias(int)",
        "public int base(int)",
        "public int platform()",
        "public boolean has(int,int,int)",
        "public int condition()",
        "public boolean asks(int,boolean,int,int)",
        "public int target()",
        "public boolean wants(int,int)",
        "public int select(int)",
        "public boolean branch(int,int,boolean,int)",
        "public boolean otherwise(int,int)",
        "public int configuration(int)",
        "public int set(int,int,int)",
        "public int value(int,int)",
        "public boolean holds(int,int)",
        "public int choose(int,int)",
        "public int chosen(int)",
        "public int need(int,int)",
        "public boolean change(int,int,int)",
        "public int reads(int)",
        "public int trim(int,int)",
        "public int expand(int,int)",
        "public int pair(int,int)",
    };
    private static int wrong = 0;

    private static void fault(String what) {
        wrong++;
        System.out.println(what);
    }

    public static void main(String[] args) {
        Set<String> want = new TreeSet<>(Arrays.asList(FACE));
        Set<String> got = new TreeSet<>();
        Set<String> publicNames = new HashSet<>();
        for (Field field : SelectConfig.class.getDeclaredFields()) {
            if (!Modifier.isPrivate(field.getModifiers())) {
                got.add(plain(field.toString()));
            }
            if (Modifier.isStatic(field.getModifiers()) && !Modifier.isFinal(field.getModifiers())) {
                fault("a static field that is not final: " + field);
            }
        }
        for (Constructor<?> constructor : SelectConfig.class.getDeclaredConstructors()) {
            got.add(plain(constructor.toString()));
        }
        for (Method method : SelectConfig.class.getDeclaredMethods()) {
            if (!Modifier.isPrivate(method.getModifiers())) {
                got.add(plain(method.toString()));
                publicNames.add(method.getName());
            }
        }
        for (Method method : SelectConfig.class.getDeclaredMethods()) {
            if (Modifier.isPrivate(method.getModifiers()) && publicNames.contains(method.getName())) {
                fault("a private method with a public one's name: " + method);
            }
        }
        if (!Modifier.isFinal(SelectConfig.class.getModifiers())) {
            fault("the class is not final");
        }
        if (!got.equals(want)) {
            fault("the face is " + got + ", due is " + want);
        }
        System.out.println(wrong == 0 ? "the face is as due" : wrong + " faults in the face");
        if (wrong != 0) {
            System.exit(1);
        }
    }

    private static String plain(String member) {
        return member.replace("SelectConfig.", "");
    }
}
