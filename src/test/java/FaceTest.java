import java.lang.reflect.Constructor;
import java.lang.reflect.Field;
import java.lang.reflect.Method;
import java.lang.reflect.Modifier;
import java.util.Arrays;
import java.util.Set;
import java.util.TreeSet;

/** The public face is the document's, with the exceptions that it names, and nothing beside it. */
public final class FaceTest {
    private static final String OUT = " throws IndexOutOfBoundsException";
    private static final String ILLEGAL = " throws IllegalArgumentException";
    private static final String BOTH = " throws IllegalArgumentException IndexOutOfBoundsException";

    private static final String[] METHODS = {
        "int rule(int,int,int,int,long)" + BOTH,
        "boolean rank(int,int)" + BOTH,
        "int area(long,long,long,long)" + ILLEGAL,
        "boolean inArea(int,int)" + OUT,
        "int thing(int,int,long,long)" + BOTH,
        "boolean make(int,int,int)" + OUT,
        "boolean move(int,long,long)" + BOTH,
        "int winner(int,int,int)" + OUT,
        "long value(int,int,int)" + OUT,
        "int listed(int,int,int,int)" + OUT,
        "int why(int,int,int,int)" + OUT,
        "long greatest(int,int)" + OUT,
        "int close(int)" + OUT,
        "int pair(int,int)" + OUT,
        "int kept()",
        "long spared()",
    };

    public static void main(String[] args) {
        Check.due("RuleChoice's modifiers", RuleChoice.class.getModifiers(), Modifier.PUBLIC | Modifier.FINAL);
        methods();
        constructors();
        fields();
        nestedClasses();
        Check.end("FaceTest");
    }

    private static void methods() {
        Set<String> want = new TreeSet<>(Arrays.asList(METHODS));
        Set<String> got = new TreeSet<>();
        Set<String> publicNames = new TreeSet<>();
        for (Method m : RuleChoice.class.getDeclaredMethods()) {
            if (!Modifier.isPrivate(m.getModifiers())) {
                got.add(signature(m));
                publicNames.add(m.getName());
                Check.due("modifiers of " + m.getName(), m.getModifiers(), Modifier.PUBLIC);
            }
        }
        Check.due("the face " + got + " is the document's", got.equals(want), true);
        for (Method m : RuleChoice.class.getDeclaredMethods()) {
            boolean clash = Modifier.isPrivate(m.getModifiers()) && publicNames.contains(m.getName());
            Check.due("a private method bears the public name " + m.getName(), clash, false);
        }
    }

    private static String signature(Method m) {
        StringBuilder text = new StringBuilder(m.getReturnType().getSimpleName());
        text.append(' ').append(m.getName()).append('(');
        String comma = "";
        for (Class<?> type : m.getParameterTypes()) {
            text.append(comma).append(type.getSimpleName());
            comma = ",";
        }
        text.append(')');
        Set<String> thrown = new TreeSet<>();
        for (Class<?> type : m.getExceptionTypes()) {
            thrown.add(type.getSimpleName());
        }
        if (!thrown.isEmpty()) {
            text.append(" throws ").append(String.join(" ", thrown));
        }
        return text.toString();
    }

    private static void constructors() {
        Constructor<?>[] all = RuleChoice.class.getDeclaredConstructors();
        Check.due("number of constructors", all.length, 1);
        Check.due("constructor is public", Modifier.isPublic(all[0].getModifiers()), true);
        Check.due("constructor takes one int",
                Arrays.equals(all[0].getParameterTypes(), new Class<?>[] {int.class}), true);
    }

    private static void fields() {
        int visible = 0;
        for (Field f : RuleChoice.class.getDeclaredFields()) {
            int m = f.getModifiers();
            if (!Modifier.isPrivate(m)) {
                visible++;
                Check.due("visible field " + f.getName() + " is NONE", f.getName().equals("NONE"), true);
                Check.due("NONE's modifiers", m, Modifier.PUBLIC | Modifier.STATIC | Modifier.FINAL);
            }
            Check.due("static field " + f.getName() + " is final",
                    !Modifier.isStatic(m) || Modifier.isFinal(m), true);
        }
        Check.due("number of visible fields", visible, 1);
        Check.due("NONE", RuleChoice.NONE, -1);
    }

    private static void nestedClasses() {
        for (Class<?> c : RuleChoice.class.getDeclaredClasses()) {
            int m = c.getModifiers();
            boolean hidden = !Modifier.isPublic(m) && !Modifier.isProtected(m);
            Check.due(c.getName() + " is hidden and static", hidden && Modifier.isStatic(m), true);
        }
    }
}
