import java.lang.reflect.Constructor;
import java.lang.reflect.Field;
import java.lang.reflect.Member;
import java.lang.reflect.Method;
import java.lang.reflect.Modifier;
import java.util.Arrays;
import java.util.TreeSet;
import java.util.regex.Matcher;
import java.util.regex.Pattern;

/** The public face: just what the document tells, and nothing else that can be seen from outside. */
public final class FaceTest {
    private static final String[] METHODS = {
        "int act(int, int, int, long)", "boolean before(int, int)", "boolean change(int, int, long)",
        "boolean turn(int, int, long)", "boolean worth(int, long)", "boolean rest(long, long)",
        "boolean breaks(int)", "boolean sure(int, long, long)", "long states()", "int run(long)",
        "int step(int)", "int stops(int)", "int other(int)", "long gain(int)", "boolean proved()",
        "long bound()", "int test(int, long)", "int stations(int)", "int station(int)",
    };
    private static final Pattern TOLD_METHOD = Pattern.compile("public (\\w+) (\\w+)\\(([^)]*)\\);");
    private static final String[] OTHER_FACE = {
        "public final class ApartCost {", "public static final int NONE = -1;", "public ApartCost();",
    };

    public static void main(String[] args) {
        Check check = new Check();
        asTheDocumentTells(check);
        theClass(check);
        methods(check);
        fields(check);
        none(check);
        constructors(check);
        nestedClasses(check);
        check.end();
    }

    private static void asTheDocumentTells(Check check) {
        Document document = new Document();
        if (!document.isRead()) {
            return;
        }
        TreeSet<String> told = new TreeSet<>();
        Matcher matcher = TOLD_METHOD.matcher(document.face());
        while (matcher.find()) {
            String types = matcher.group(3).replaceAll("(\\w+) \\w+", "$1");
            told.add(matcher.group(1) + " " + matcher.group(2) + "(" + types + ")");
        }
        check.due("the document's methods: " + told, told.equals(new TreeSet<>(Arrays.asList(METHODS))), true);
        for (String words : OTHER_FACE) {
            check.due("the document's face has " + words, document.face().contains(words), true);
        }
    }

    private static void theClass(Check check) {
        int modifiers = ApartCost.class.getModifiers();
        check.due("the class is public and final", Modifier.isPublic(modifiers) && Modifier.isFinal(modifiers), true);
        check.due("it stands for itself", ApartCost.class.getSuperclass() == Object.class, true);
        check.due("interfaces of it", ApartCost.class.getInterfaces().length, 0);
    }

    private static void none(Check check) {
        check.due("NONE", ApartCost.NONE, -1);
        for (Field field : ApartCost.class.getDeclaredFields()) {
            if (field.getName().equals("NONE")) {
                int modifiers = field.getModifiers();
                check.due("NONE is public", Modifier.isPublic(modifiers), true);
                check.due("NONE is static", Modifier.isStatic(modifiers), true);
                check.due("NONE is final", Modifier.isFinal(modifiers), true);
                check.due("NONE is an int", field.getType() == int.class, true);
            }
        }
    }

    private static void nestedClasses(Check check) {
        for (Class<?> nested : ApartCost.class.getDeclaredClasses()) {
            int modifiers = nested.getModifiers();
            check.due(nested + " is hidden", Modifier.isPublic(modifiers) || Modifier.isProtected(modifiers), false);
            check.due(nested + " is static", Modifier.isStatic(modifiers), true);
        }
    }

    private static void methods(Check check) {
        TreeSet<String> due = new TreeSet<>(Arrays.asList(METHODS));
        TreeSet<String> hidden = new TreeSet<>();
        TreeSet<String> shown = new TreeSet<>();
        for (Method method : ApartCost.class.getDeclaredMethods()) {
            if (isHidden(method)) {
                hidden.add(method.getName());
                continue;
            }
            check.due(method + " is in the face", due.remove(signature(method)), true);
            check.due(method + " is public", Modifier.isPublic(method.getModifiers()), true);
            check.due(method + " is not static", Modifier.isStatic(method.getModifiers()), false);
            shown.add(method.getName());
        }
        check.due("methods that lack: " + due, due.size(), 0);
        hidden.retainAll(shown);
        check.due("private methods with a public name: " + hidden, hidden.size(), 0);
    }

    private static void fields(Check check) {
        for (Field field : ApartCost.class.getDeclaredFields()) {
            boolean isNone = field.getName().equals("NONE") && Modifier.isPublic(field.getModifiers());
            check.due(field + " is hidden, or NONE", isHidden(field) || isNone, true);
        }
    }

    private static void constructors(Check check) {
        Constructor<?>[] made = ApartCost.class.getDeclaredConstructors();
        check.due("constructors", made.length, 1);
        check.due("its parameters", made[0].getParameterCount(), 0);
        check.due("it is public", Modifier.isPublic(made[0].getModifiers()), true);
    }

    private static boolean isHidden(Member member) {
        return Modifier.isPrivate(member.getModifiers()) || member.isSynthetic();
    }

    private static String signature(Method method) {
        String parameters = Arrays.toString(method.getParameterTypes());
        return method.getReturnType() + " " + method.getName() + "("
            + parameters.substring(1, parameters.length() - 1) + ")";
    }
}
