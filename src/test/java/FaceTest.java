import java.lang.reflect.Constructor;
import java.lang.reflect.Field;
import java.lang.reflect.Method;
import java.lang.reflect.Modifier;
import java.util.Set;
import java.util.TreeSet;

/** The public face: the constants and calls of the document, and nothing more. */
public final class FaceTest {
    private static final String[] METHODS = {
        "int table(int)", "int filter(int,int,int,int)", "int map(int,int,int,int)",
        "int join(int,int,int,int,int)", "int combine(int,int,int)", "int distinct(int)",
        "int group(int,int,int,int)", "int change(int,int,int,int,int)", "int step()", "int drop()",
        "long weight(int,int,int,int)", "long inTable(int,int,int,int)", "int rows(int)",
        "long cell(int,int,int)", "long total(int)", "int changed(int)", "double mean(int,int)",
        "int count(int)",
    };

    public static void main(String[] args) {
        Check.due("REFUSED", DeltaViews.REFUSED, -1);
        Check.due("FULL", DeltaViews.FULL, -2);
        Check.due("NONE", DeltaViews.NONE, -1000000000000L);
        Check.due("public and final", DeltaViews.class.getModifiers(), Modifier.PUBLIC | Modifier.FINAL);
        same("methods", visibleMethods(), Set.of(METHODS));
        same("fields", visibleFields(), Set.of("int REFUSED", "int FULL", "long NONE"));
        Constructor<?>[] constructors = DeltaViews.class.getDeclaredConstructors();
        Check.due("one constructor", constructors.length, 1);
        Check.due("without parameters", constructors[0].getParameterCount(), 0);
        Check.due("a public one", constructors[0].getModifiers(), Modifier.PUBLIC);
        for (Class<?> inside : DeltaViews.class.getDeclaredClasses()) {
            Check.due(inside + " is static", inside.getModifiers() & Modifier.STATIC, Modifier.STATIC);
            Check.due(inside + " is not public", inside.getModifiers() & Modifier.PUBLIC, 0);
        }
        Check.end();
    }

    private static void same(String what, Set<String> got, Set<String> want) {
        Set<String> lacking = new TreeSet<>(want);
        lacking.removeAll(got);
        Set<String> beyond = new TreeSet<>(got);
        beyond.removeAll(want);
        Check.due(what + " lacking: " + lacking, lacking.size(), 0);
        Check.due(what + " beyond the document: " + beyond, beyond.size(), 0);
    }

    private static Set<String> visibleMethods() {
        Set<String> found = new TreeSet<>();
        for (Method method : DeltaViews.class.getDeclaredMethods()) {
            if (!Modifier.isPrivate(method.getModifiers())) {
                StringBuilder parameters = new StringBuilder();
                for (Class<?> type : method.getParameterTypes()) {
                    parameters.append(parameters.length() == 0 ? "" : ",").append(type);
                }
                found.add(method.getReturnType() + " " + method.getName() + "(" + parameters + ")");
            }
        }
        return found;
    }

    private static Set<String> visibleFields() {
        Set<String> found = new TreeSet<>();
        for (Field field : DeltaViews.class.getDeclaredFields()) {
            if (!Modifier.isPrivate(field.getModifiers())) {
                found.add(field.getType() + " " + field.getName());
            }
        }
        return found;
    }
}
