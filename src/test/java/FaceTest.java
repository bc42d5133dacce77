import java.lang.reflect.Constructor;
import java.lang.reflect.Field;
import java.lang.reflect.Method;
import java.lang.reflect.Modifier;
import java.util.Arrays;
import java.util.List;
import java.util.Set;
import java.util.TreeSet;
import java.util.regex.Matcher;
import java.util.regex.Pattern;

/** The public face is the document's, with the exceptions that it names, and nothing beside it. */
public final class FaceTest {
    private static final String OUT = " throws IndexOutOfBoundsException";
    private static final String ILLEGAL = " throws IllegalArgumentException";
    private static final String BOTH = " throws IllegalArgumentException IndexOutOfBoundsException";

    private static final String[] METHODS = {
        "int rule(int,int,int,int,long)" + BOTH,
        "boolean rank(int,int)" + BOTH,
        "int area(long,long,long,long)" + ILLEGAL,
        "boolean inArea(int,int)" + OUT,
        "int thing(int,int,long,long)" + BOTH,
        "boolean make(int,int,int)" + OUT,
        "boolean move(int,long,long)" + BOTH,
        "int winner(int,int,int)" + OUT,
        "long value(int,int,int)" + OUT,
        "int listed(int,int,int,int)" + OUT,
        "int why(int,int,int,int)" + OUT,
        "long greatest(int,int)" + OUT,
        "int close(int)" + OUT,
        "int pair(int,int)" + OUT,
        "int kept()",
        "long spared()",
    };
    /** A method as the document writes it: what it answers, its name, its arguments, what it throws. */
    private static final Pattern TOLD = Pattern.compile(" *public (\\w+) (\\w+)\\((.*)\\)(?: throws (.*))?;");

    public static void main(String[] args) {
        itself();
        document();
        methods();
        constructors();
        fields();
        nestedClasses();
        Check.end("FaceTest");
    }

    private static void itself() {
        Check.due("RuleChoice's modifiers", RuleChoice.class.getModifiers(), Modifier.PUBLIC | Modifier.FINAL);
        Check.due("RuleChoice is in no package", RuleChoice.class.getPackageName().isEmpty(), true);
        Check.due("RuleChoice is below Object alone", RuleChoice.class.getSuperclass() == Object.class, true);
        Check.due("number of RuleChoice's interfaces", RuleChoice.class.getInterfaces().length, 0);
    }

    /** The row above is the document's. */
    private static void document() {
        List<String> lines = Doc.linesOf("The public face");
        if (lines.isEmpty()) {
            return;
        }
        Set<String> told = new TreeSet<>();
        for (String line : lines) {
            Matcher m = TOLD.matcher(line);
            if (m.matches()) {
                told.add(signature(m));
            }
        }
        Check.due("the document's face " + told + " is the one looked for",
                told.equals(new TreeSet<>(Arrays.asList(METHODS))), true);
        Check.due("the document tells NONE",
                lines.contains("    public static final int NONE = -1;"), true);
        Check.due("the document tells the constructor", lines.contains("    public RuleChoice(int classes);"), true);
    }

    private static String signature(Matcher told) {
        String types = told.group(3).replaceAll(" \\w+(, )?", ",").replaceFirst(",$", "");
        String thrown = "";
        if (told.group(4) != null) {
            thrown = " throws " + String.join(" ", new TreeSet<>(Arrays.asList(told.group(4).split(", "))));
        }
        return told.group(1) + " " + told.group(2) + "(" + types + ")" + thrown;
    }

    private static void methods() {
        Set<String> want = new TreeSet<>(Arrays.asList(METHODS));
        Set<String> got = new TreeSet<>();
        Set<String> publicNames = new TreeSet<>();
        for (Method m : RuleChoice.class.getDeclaredMethods()) {
            if (!Modifier.isPrivate(m.getModifiers())) {
                got.add(signature(m));
                publicNames.add(m.getName());
                Check.due("modifiers of " + m.getName(), m.getModifiers(), Modifier.PUBLIC);
            }
        }
        Check.due("the face " + got + " is the document's", got.equals(want), true);
        for (Method m : RuleChoice.class.getDeclaredMethods()) {
            boolean clash = Modifier.isPrivate(m.getModifiers()) && publicNames.contains(m.getName());
            Check.due("a private method bears the public name " + m.getName(), clash, false);
        }
    }

    private static String signature(Method m) {
        StringBuilder text = new StringBuilder(m.getReturnType().getSimpleName());
        text.append(' ').append(m.getName()).append('(');
        String comma = "";
        for (Class<?> type : m.getParameterTypes()) {
            text.append(comma).append(type.getSimpleName());
            comma = ",";
        }
        text.append(')');
        Set<String> thrown = new TreeSet<>();
        for (Class<?> type : m.getExceptionTypes()) {
            thrown.add(type.getSimpleName());
        }
        if (!thrown.isEmpty()) {
            text.append(" throws ").append(String.join(" ", thrown));
        }
        return text.toString();
    }

    private static void constructors() {
        Constructor<?>[] all = RuleChoice.class.getDeclaredConstructors();
        Check.due("number of constructors", all.length, 1);
        Check.due("constructor's modifiers", all[0].getModifiers(), Modifier.PUBLIC);
        Check.due("number of the constructor's exceptions", all[0].getExceptionTypes().length, 0);
        Check.due("constructor takes one int",
                Arrays.equals(all[0].getParameterTypes(), new Class<?>[] {int.class}), true);
    }

    private static void fields() {
        int visible = 0;
        for (Field f : RuleChoice.class.getDeclaredFields()) {
            int m = f.getModifiers();
            if (!Modifier.isPrivate(m)) {
                visible++;
                Check.due("visible field " + f.getName() + " is NONE", f.getName().equals("NONE"), true);
                Check.due("NONE's modifiers", m, Modifier.PUBLIC | Modifier.STATIC | Modifier.FINAL);
                Check.due("NONE is an int", f.getType() == int.class, true);
            }
            Check.due("static field " + f.getName() + " is final",
                    !Modifier.isStatic(m) || Modifier.isFinal(m), true);
        }
        Check.due("number of visible fields", visible, 1);
        Check.due("NONE", RuleChoice.NONE, -1);
    }

    private static void nestedClasses() {
        for (Class<?> c : RuleChoice.class.getDeclaredClasses()) {
            int m = c.getModifiers();
            boolean hidden = !Modifier.isPublic(m) && !Modifier.isProtected(m);
            Check.due(c.getName() + " is hidden and static", hidden && Modifier.isStatic(m), true);
        }
    }
}
