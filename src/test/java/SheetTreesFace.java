import java.lang.reflect.Constructor;
import java.lang.reflect.Field;
import java.lang.reflect.Member;
import java.lang.reflect.Method;
import java.lang.reflect.Modifier;
import java.util.ArrayList;
import java.util.List;
import java.util.Set;
import java.util.TreeSet;

/** The class has the document's face, and no other member that is not private. */
public final class SheetTreesFace {
    private static final String ARGUMENT = "IllegalArgumentException";
    private static final String STATE = "IllegalStateException";
    private static final String INDEX = "IndexOutOfBoundsException";

    private static int wrong = 0;

    public static void main(String[] args) {
        Set<String> due = new TreeSet<>();
        due.add("public static final int NONE");
        due.add("public new(int, int, int)");
        due.add("public int sheet(int, int, int, int) " + ARGUMENT + " " + STATE);
        due.add("public int part(int, int, int, boolean) " + ARGUMENT + " " + STATE);
        due.add("public int count(int, int) " + INDEX + " " + ARGUMENT);
        due.add("public int worth(int, int, int, int) " + ARGUMENT);
        due.add("public int run()");
        due.add("public int cut(int, int) " + STATE + " " + INDEX);
        due.add("public int taken(int, int, int) " + STATE + " " + INDEX);
        due.add("public int rest(int, int, int) " + STATE + " " + INDEX);
        due.add("public int left(int) " + STATE + " " + INDEX);
        due.add("public long all(int) " + STATE + " " + INDEX);
        due.add("public int bound()");
        check("the face", due, face());
        check("modifiers", "public final", Modifier.toString(SheetTrees.class.getModifiers()));
        check("private methods with a public name", 0, sharedNames());
        check("inner classes that are not static", 0, innerClasses());
        System.out.println(wrong == 0 ? "the face is as due" : wrong + " things are not as due");
        if (wrong != 0) {
            System.exit(1);
        }
    }

    private static Set<String> face() {
        Set<String> face = new TreeSet<>();
        for (Field field : SheetTrees.class.getDeclaredFields()) {
            if (isOpen(field)) {
                face.add(Modifier.toString(field.getModifiers()) + " " + field.getType() + " " + field.getName());
            }
        }
        for (Constructor<?> made : SheetTrees.class.getDeclaredConstructors()) {
            if (isOpen(made)) {
                face.add(Modifier.toString(made.getModifiers()) + " new" + names(made.getParameterTypes()));
            }
        }
        for (Method method : SheetTrees.class.getDeclaredMethods()) {
            if (isOpen(method)) {
                StringBuilder text = new StringBuilder(Modifier.toString(method.getModifiers()));
                text.append(' ').append(method.getReturnType()).append(' ').append(method.getName());
                text.append(names(method.getParameterTypes()));
                for (Class<?> thrown : method.getExceptionTypes()) {
                    text.append(' ').append(thrown.getSimpleName());
                }
                face.add(text.toString());
            }
        }
        return face;
    }

    private static boolean isOpen(Member member) {
        return !Modifier.isPrivate(member.getModifiers()) && !member.isSynthetic();
    }

    private static String names(Class<?>[] types) {
        List<String> names = new ArrayList<>();
        for (Class<?> type : types) {
            names.add(type.getSimpleName());
        }
        return "(" + String.join(", ", names) + ")";
    }

    private static int sharedNames() {
        Set<String> open = new TreeSet<>();
        for (Method method : SheetTrees.class.getDeclaredMethods()) {
            if (isOpen(method)) {
                open.add(method.getName());
            }
        }
        int shared = 0;
        List<Class<?>> all = new ArrayList<>(List.of(SheetTrees.class.getDeclaredClasses()));
        all.add(SheetTrees.class);
        for (Class<?> one : all) {
            for (Method method : one.getDeclaredMethods()) {
                boolean faceItself = one == SheetTrees.class && isOpen(method);
                shared += !faceItself && open.contains(method.getName()) ? 1 : 0;
            }
        }
        return shared;
    }

    private static int innerClasses() {
        int inner = 0;
        for (Class<?> one : SheetTrees.class.getDeclaredClasses()) {
            inner += Modifier.isStatic(one.getModifiers()) ? 0 : 1;
        }
        return inner;
    }

    private static void check(String what, Object due, Object got) {
        if (!due.equals(got)) {
            wrong++;
            System.out.println(what + ": " + got + ", due is " + due);
        }
    }
}
