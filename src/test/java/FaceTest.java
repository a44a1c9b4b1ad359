import java.lang.reflect.Constructor;
import java.lang.reflect.Field;
import java.lang.reflect.Method;
import java.lang.reflect.Modifier;
import java.util.Set;
import java.util.TreeSet;

/** The public face is the document's, and nothing besides it is to be seen. */
public final class FaceTest {
    private static final String[] FACE = {
        "boolean make(long, int, int, int)", "int open(long)", "boolean shut()", "boolean isOpen()",
        "int length()", "boolean save(int)", "void renew(long, int)", "int serial()",
        "boolean put(long, long)", "boolean remove(long)", "int entries()", "long name(int)",
        "long value(long, int)", "int disk(int)", "void spoil(int, int)", "boolean isGood(int, long)"};

    public static void main(String[] args) {
        Class<?> face = CrashVault.class;
        Check.due("the class's modifiers", face.getModifiers(), Modifier.PUBLIC | Modifier.FINAL);
        Check.due("its superclass", face.getSuperclass().getName(), "java.lang.Object");
        Check.due("its interfaces", face.getInterfaces().length, 0);
        Set<String> seen = new TreeSet<>();
        Set<String> publicNames = new TreeSet<>();
        for (Method method : face.getDeclaredMethods()) {
            if (!Modifier.isPrivate(method.getModifiers())) {
                Check.due(method + " is public alone", method.getModifiers(), Modifier.PUBLIC);
                seen.add(told(method));
                publicNames.add(method.getName());
            }
        }
        Check.due("the methods", seen.toString(), new TreeSet<>(Set.of(FACE)).toString());
        for (Method method : face.getDeclaredMethods()) {
            if (Modifier.isPrivate(method.getModifiers())) {
                Check.due(method + " bears a public name", publicNames.contains(method.getName()), false);
            }
        }
        for (Field field : face.getDeclaredFields()) {
            Check.due(field + " is private", Modifier.isPrivate(field.getModifiers()), true);
        }
        Constructor<?>[] constructors = face.getDeclaredConstructors();
        Check.due("the constructors", constructors.length, 1);
        Check.due("the constructor", constructors[0].toString(), "public CrashVault()");
        Check.end();
    }

    private static String told(Method method) {
        StringBuilder types = new StringBuilder();
        for (Class<?> type : method.getParameterTypes()) {
            types.append(types.length() == 0 ? "" : ", ").append(type.getName());
        }
        return method.getReturnType().getName() + " " + method.getName() + "(" + types + ")";
    }
}
