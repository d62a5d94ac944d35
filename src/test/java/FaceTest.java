import java.lang.reflect.Constructor;
import java.lang.reflect.Field;
import java.lang.reflect.Method;
import java.lang.reflect.Modifier;
import java.util.Set;
import java.util.TreeSet;

/** The public face is the document's, and no other. */
public final class FaceTest {
    private static final String[] METHODS = {
        "boolean wall(int,int,boolean) Index", "int zone(int,int,int) Index Argument",
        "int thing(int,int,int) State Argument", "int apart(int,int,int) Index Argument",
        "int wish(int,int,int) Index Argument", "int place(int,int) Index State Argument",
        "boolean sees(int,int,boolean) Index", "int exit(int,int) Index State Argument", "int most(int) Argument",
        "int run(int) Argument", "int nodes()", "int at(int,int) Index State", "int worth()",
        "boolean sight(int,int) Index State", "int escape(int,int) Index State", "int count(int) Index"};

    public static void main(String[] args) {
        int modifiers = CaseLayout.class.getModifiers();
        Check.due("public", Modifier.isPublic(modifiers), true);
        Check.due("final", Modifier.isFinal(modifiers), true);
        Check.due("NONE", CaseLayout.NONE, -1);
        methods();
        fieldsAndConstructors();
        classesInside();
        Check.end();
    }

    private static void methods() {
        Set<String> open = new TreeSet<>();
        Set<String> names = new TreeSet<>();
        for (Method method : CaseLayout.class.getDeclaredMethods()) {
            if (!Modifier.isPrivate(method.getModifiers()) && !method.isSynthetic()) {
                open.add(written(method));
                names.add(method.getName());
                Check.due(method.getName() + " is public", Modifier.isPublic(method.getModifiers()), true);
            }
        }
        Check.due("methods", open.toString(), new TreeSet<>(Set.of(METHODS)).toString());
        for (Method method : CaseLayout.class.getDeclaredMethods()) {
            if (Modifier.isPrivate(method.getModifiers()) && names.contains(method.getName())) {
                Check.tell("a private method bears the name of a public one: " + method.getName());
            }
        }
    }

    private static void fieldsAndConstructors() {
        for (Field field : CaseLayout.class.getDeclaredFields()) {
            boolean closed = Modifier.isPrivate(field.getModifiers());
            Check.due("field " + field.getName() + " is closed", closed, !field.getName().equals("NONE"));
            if (Modifier.isStatic(field.getModifiers())) {
                Check.due(field.getName() + " is final", Modifier.isFinal(field.getModifiers()), true);
            }
        }
        Constructor<?>[] made = CaseLayout.class.getDeclaredConstructors();
        Check.due("constructors", made.length, 1);
        Check.due("its parameters", made[0].getParameterCount(), 2);
        Check.due("it is public", Modifier.isPublic(made[0].getModifiers()), true);
    }

    private static void classesInside() {
        for (Class<?> inside : CaseLayout.class.getDeclaredClasses()) {
            String name = inside.getSimpleName();
            Check.due(name + " is private", Modifier.isPrivate(inside.getModifiers()), true);
            Check.due(name + " is static", Modifier.isStatic(inside.getModifiers()), true);
            Check.due(name + " has at most twenty fields", inside.getDeclaredFields().length <= 20, true);
            for (Method method : inside.getDeclaredMethods()) {
                for (String open : METHODS) {
                    if (open.contains(" " + method.getName() + "(")) {
                        Check.tell(name + " bears the name of a public method: " + method.getName());
                    }
                }
            }
        }
    }

    private static String written(Method method) {
        StringBuilder text = new StringBuilder();
        text.append(method.getReturnType().getName()).append(' ').append(method.getName()).append('(');
        String comma = "";
        for (Class<?> type : method.getParameterTypes()) {
            text.append(comma).append(type.getName());
            comma = ",";
        }
        text.append(')');
        for (Class<?> thrown : method.getExceptionTypes()) {
            text.append(' ').append(thrown.getSimpleName().replaceAll("OutOfBoundsException|Illegal|Exception", ""));
        }
        return text.toString();
    }
}
