import java.lang.reflect.Constructor;
import java.lang.reflect.Field;
import java.lang.reflect.Method;
import java.lang.reflect.Modifier;
import java.util.Arrays;
import java.util.Set;
import java.util.TreeSet;

/** The face of the class is the document's, and no other member can be seen. */
public final class FaceTest {
    private static final String[] FACE = {
        "int feed(int,int,int,int,int)", "boolean end(int)", "boolean well(int,int,int,int)", "int rights()", "int fault()",
        "boolean next()", "int water(int,int)", "int owner(int,int)", "int may(int,int)", "int lend(int,int,int)",
        "int draw(int,int,int)", "int take(int,int,int)", "boolean report(int)", "int drawn(int,int) throws java.util.NoSuchElementException", "int judge(int,int,int,int,int)",
        "boolean herd(int,int,int,int,int)", "boolean drop(int)", "boolean way(int,int,int)", "int plan(int,int) throws java.lang.IllegalArgumentException", "int step(int,int)",
        "int far()", "int count(int)"};

    public static void main(String[] args) {
        Set<String> names = new TreeSet<>();
        Set<String> seen = new TreeSet<>();
        for (Method method : WellCourt.class.getDeclaredMethods()) {
            if (!Modifier.isPrivate(method.getModifiers())) {
                seen.add(signature(method));
                names.add(method.getName());
                Check.due(method + " is public", Modifier.isPublic(method.getModifiers()) && !Modifier.isStatic(method.getModifiers()), true);
            }
        }
        Check.due("the methods " + seen, seen.equals(new TreeSet<>(Arrays.asList(FACE))), true);
        Check.due("the class is final", Modifier.isFinal(WellCourt.class.getModifiers()) && Modifier.isPublic(WellCourt.class.getModifiers()), true);
        Constructor<?>[] constructors = WellCourt.class.getDeclaredConstructors();
        Check.due("constructors", constructors.length, 1);
        Check.due("a public one", Modifier.isPublic(constructors[0].getModifiers()) && constructors[0].getParameterCount() == 0, true);
        fields(WellCourt.class);
        privateNames(WellCourt.class, names);
        for (Class<?> inner : WellCourt.class.getDeclaredClasses()) {
            Check.due(inner + " is static", Modifier.isStatic(inner.getModifiers()), true);
            Check.due(inner + " is not seen", Modifier.isPublic(inner.getModifiers()) || Modifier.isProtected(inner.getModifiers()), false);
            fields(inner);
            privateNames(inner, names);
        }
        Check.finish();
    }

    private static String signature(Method method) {
        StringBuilder text = new StringBuilder(method.getReturnType().getName() + " " + method.getName() + "(");
        for (Class<?> type : method.getParameterTypes()) {
            text.append(text.charAt(text.length() - 1) == '(' ? "" : ",").append(type.getName());
        }
        text.append(")");
        for (Class<?> thrown : method.getExceptionTypes()) {
            text.append(" throws ").append(thrown.getName());
        }
        return text.toString();
    }

    private static void fields(Class<?> of) {
        for (Field field : of.getDeclaredFields()) {
            boolean isNone = of == WellCourt.class && field.getName().equals("NONE");
            Check.due(field + " is private", Modifier.isPrivate(field.getModifiers()), !isNone);
            if (Modifier.isStatic(field.getModifiers())) {
                Check.due(field + " is final", Modifier.isFinal(field.getModifiers()), true);
            }
        }
    }

    private static void privateNames(Class<?> of, Set<String> names) {
        for (Method method : of.getDeclaredMethods()) {
            boolean isFace = of == WellCourt.class && Modifier.isPublic(method.getModifiers());
            Check.due(method + " has a name of its own", isFace || !names.contains(method.getName()), true);
            Check.due(method + " has at most seven parameters", method.getParameterCount() <= 7, true);
        }
    }
}
