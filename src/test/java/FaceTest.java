import java.lang.reflect.Constructor;
import java.lang.reflect.Field;
import java.lang.reflect.Method;
import java.lang.reflect.Modifier;
import java.util.Arrays;
import java.util.Set;
import java.util.TreeSet;

/** The class shows the document's face and, by rule 1 of LANGUAGE.md, nothing beside it. */
public final class FaceTest {
    private static final String[] METHODS = {
        "int make(int)", "int copy(int)", "int load(int, int)", "boolean store(int, int, int)",
        "int drop()", "int reckon()", "int stack()", "int held(int)", "int alive()",
        "int count(int)", "int cell(int)", "int slot(int, int)", "int table()", "int state(int)",
        "int log()", "int entry(int, int)", "int free()", "int reckonings()"
    };

    public static void main(String[] args) throws Exception {
        Due due = new Due();
        due.about("the face");
        due.is("class is public final", LazyCounts.class.getModifiers(),
                Modifier.PUBLIC | Modifier.FINAL);
        constants(due);
        constructors(due);
        methods(due);
        fieldsAndClassesInside(due);
        due.end();
    }

    private static void constants(Due due) throws Exception {
        due.is("BAD", LazyCounts.class.getField("BAD").getInt(null), -1);
        due.is("FULL", LazyCounts.class.getField("FULL").getInt(null), -2);
        due.is("NONE", LazyCounts.class.getField("NONE").getInt(null), -3);
        due.is("public fields", LazyCounts.class.getFields().length, 3);
        for (Field constant : LazyCounts.class.getFields()) {
            due.is(constant.getName() + "'s modifiers", constant.getModifiers(),
                    Modifier.PUBLIC | Modifier.STATIC | Modifier.FINAL);
        }
    }

    private static void constructors(Due due) {
        Constructor<?>[] all = LazyCounts.class.getDeclaredConstructors();
        due.is("constructors", all.length, 1);
        due.is("constructor's parameters", all[0].getParameterCount(), 0);
        due.is("constructor's modifiers", all[0].getModifiers(), Modifier.PUBLIC);
    }

    private static void methods(Due due) {
        Set<String> shown = new TreeSet<>();
        Set<String> hidden = new TreeSet<>();
        Set<String> shownNames = new TreeSet<>();
        for (Method method : LazyCounts.class.getDeclaredMethods()) {
            if (Modifier.isPrivate(method.getModifiers())) {
                hidden.add(method.getName());
            } else {
                shown.add(told(method));
                shownNames.add(method.getName());
                due.is(method.getName() + "'s modifiers", method.getModifiers(), Modifier.PUBLIC);
            }
        }
        due.is("methods are " + shown + ", which", shown.equals(new TreeSet<>(Arrays.asList(METHODS))), true);
        hidden.retainAll(shownNames);
        due.is("private methods that bear a public name " + hidden, hidden.size(), 0);
    }

    private static String told(Method method) {
        StringBuilder text = new StringBuilder(method.getReturnType() + " " + method.getName() + "(");
        for (Class<?> type : method.getParameterTypes()) {
            text.append(text.charAt(text.length() - 1) == '(' ? "" : ", ").append(type);
        }
        return text.append(")").toString();
    }

    private static void fieldsAndClassesInside(Due due) {
        for (Field field : LazyCounts.class.getDeclaredFields()) {
            int modifiers = field.getModifiers();
            due.is(field.getName() + " is public or private",
                    Modifier.isPublic(modifiers) || Modifier.isPrivate(modifiers), true);
            due.is(field.getName() + " is final or no static",
                    Modifier.isFinal(modifiers) || !Modifier.isStatic(modifiers), true);
        }
        for (Class<?> inside : LazyCounts.class.getDeclaredClasses()) {
            int modifiers = inside.getModifiers();
            due.is(inside.getName() + " is static", Modifier.isStatic(modifiers), true);
            due.is(inside.getName() + " is public or protected",
                    Modifier.isPublic(modifiers) || Modifier.isProtected(modifiers), false);
        }
    }
}
