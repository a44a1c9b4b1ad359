import com.sun.source.tree.MethodTree;
import com.sun.source.tree.Tree;
import com.sun.source.tree.VariableTree;
import java.io.IOException;
import java.lang.reflect.Constructor;
import java.lang.reflect.Field;
import java.lang.reflect.Method;
import java.lang.reflect.Modifier;
import java.nio.file.Path;
import java.util.ArrayList;
import java.util.List;
import java.util.Set;
import java.util.TreeSet;
import java.util.stream.Collectors;

/** The public face is the document's, line by line, and nothing besides it is to be seen. */
public final class FaceTest {
    private static final Class<?> CLASS = CrashVault.class;

    public static void main(String[] args) throws IOException {
        List<String> face = Document.read(Path.of("../shared/DOC.md")).face();
        Check.due("the lines of the document's face", face.size(), 17);
        Check.due("the face", String.join("\n", written()), String.join("\n", face));
        theClass();
        theMethods(face.size() - 1);
        nothingElse();
        Check.end();
    }

    /** The public lines of the program as the document writes them. */
    private static List<String> written() throws IOException {
        List<String> lines = new ArrayList<>();
        for (MethodTree each : Source.read(Path.of("src/main/java/CrashVault.java")).all(MethodTree.class)) {
            if (each.getModifiers().getFlags().contains(javax.lang.model.element.Modifier.PUBLIC)) {
                lines.add(told(each));
            }
        }
        return lines;
    }

    private static String told(MethodTree method) {
        String name = method.getReturnType() == null ? "CrashVault" : method.getReturnType() + " " + method.getName();
        String thrown = joined(method.getThrows());
        return "public " + name + "(" + joined(method.getParameters()) + ")"
            + (thrown.isEmpty() ? "" : " throws " + thrown) + ";";
    }

    private static String joined(List<? extends Tree> parts) {
        return parts.stream().map(part -> part instanceof VariableTree parameter
            ? parameter.getType() + " " + parameter.getName() : part.toString()).collect(Collectors.joining(", "));
    }

    private static void theClass() {
        Check.due("the class's modifiers", CLASS.getModifiers(), Modifier.PUBLIC | Modifier.FINAL);
        Check.due("its superclass", CLASS.getSuperclass().getName(), "java.lang.Object");
        Check.due("its interfaces", CLASS.getInterfaces().length, 0);
        Constructor<?>[] constructors = CLASS.getDeclaredConstructors();
        Check.due("the constructors", constructors.length, 1);
        Check.due("the constructor", constructors[0].toString(), "public CrashVault()");
    }

    private static void theMethods(int due) {
        Set<String> names = new TreeSet<>();
        for (Method method : CLASS.getDeclaredMethods()) {
            if (!Modifier.isPrivate(method.getModifiers())) {
                Check.due(method + " is public alone", method.getModifiers(), Modifier.PUBLIC);
                names.add(method.getName());
            }
        }
        Check.due("the methods that are to be seen", names.size(), due);
        for (Method method : CLASS.getDeclaredMethods()) {
            if (Modifier.isPrivate(method.getModifiers())) {
                Check.due(method + " bears a public name", names.contains(method.getName()), false);
            }
        }
    }

    private static void nothingElse() {
        for (Field field : CLASS.getDeclaredFields()) {
            Check.due(field + " is private", Modifier.isPrivate(field.getModifiers()), true);
        }
        for (Class<?> inside : CLASS.getDeclaredClasses()) {
            Check.due(inside + " is static", Modifier.isStatic(inside.getModifiers()), true);
            Check.due(inside + " is public or protected",
                (inside.getModifiers() & (Modifier.PUBLIC | Modifier.PROTECTED)) != 0, false);
        }
    }
}
