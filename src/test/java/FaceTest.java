import java.lang.reflect.Constructor;
import java.lang.reflect.Field;
import java.lang.reflect.Method;
import java.lang.reflect.Modifier;
import java.util.ArrayList;
import java.util.Collections;
import java.util.List;
import java.util.TreeSet;

/** The public face is the document's, and there is nothing visible beside it (LANGUAGE.md rules 1 and 5). */
public final class FaceTest {
    private static final String[] FACE = {
        "int assign(int)", "int bound()", "void call(int)", "void cancel(int)", "int count(int)", "int depart(int)",
        "int door(int,int,int)", "boolean exact()", "int known(int,int)", "boolean late(int,int)",
        "boolean load(int,int,int)", "int moved()", "int order(int,int)", "int out(int,boolean)", "void pass(int)",
        "int seal(int,int)", "int told(int,int)", "int truck(int,int,int,int)"
    };

    public static void main(String[] args) {
        Check check = new Check("FaceTest");
        int modifiers = DockBook.class.getModifiers();
        check.same("class is public", Modifier.isPublic(modifiers), true);
        check.same("class is final", Modifier.isFinal(modifiers), true);
        List<String> due = new ArrayList<>(List.of(FACE));
        Collections.sort(due);
        check.same("visible methods", visibleMethods().toString(), due.toString());
        Constructor<?>[] constructors = DockBook.class.getDeclaredConstructors();
        check.same("constructors", constructors.length, 1);
        check.same("constructor", constructors[0].toString(), "public DockBook()");
        for (Field field : DockBook.class.getDeclaredFields()) {
            check.same(field.getName() + " is private", Modifier.isPrivate(field.getModifiers()), true);
            if (Modifier.isStatic(field.getModifiers())) {
                check.same(field.getName() + " is final", Modifier.isFinal(field.getModifiers()), true);
            }
        }
        checkNames(check);
        check.finish();
    }

    private static List<String> visibleMethods() {
        List<String> found = new ArrayList<>();
        for (Method method : DockBook.class.getDeclaredMethods()) {
            if (!Modifier.isPrivate(method.getModifiers())) {
                String parameters = "";
                for (Class<?> type : method.getParameterTypes()) {
                    parameters += (parameters.isEmpty() ? "" : ",") + type.getSimpleName();
                }
                found.add(method.getReturnType().getSimpleName() + " " + method.getName() + "(" + parameters + ")");
            }
        }
        Collections.sort(found);
        return found;
    }

    private static void checkNames(Check check) {
        TreeSet<String> names = new TreeSet<>();
        for (Method method : DockBook.class.getMethods()) {
            names.add(method.getName());
        }
        for (Method method : DockBook.class.getDeclaredMethods()) {
            boolean borrowed = Modifier.isPrivate(method.getModifiers()) && names.contains(method.getName());
            check.same(method.getName() + " is private and has a public name", borrowed, false);
        }
        for (Class<?> inside : DockBook.class.getDeclaredClasses()) {
            check.same(inside.getSimpleName() + " is static", Modifier.isStatic(inside.getModifiers()), true);
            for (Method method : inside.getDeclaredMethods()) {
                check.same(method.getName() + " has a public name", names.contains(method.getName()), false);
            }
        }
    }
}
