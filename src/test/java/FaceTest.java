import java.lang.reflect.Constructor;
import java.lang.reflect.Field;
import java.lang.reflect.Method;
import java.lang.reflect.Modifier;
import java.nio.file.Files;
import java.nio.file.Path;
import java.util.ArrayList;
import java.util.Collections;
import java.util.HashSet;
import java.util.List;
import java.util.Set;

/** The class has the document's face, and shows nothing else. */
public final class FaceTest {
    public static void main(String[] args) throws Exception {
        Checks checks = new Checks("FaceTest");
        Class<?> face = MouthpieceRow.class;
        checks.same("public and final", true,
                Modifier.isPublic(face.getModifiers()) && Modifier.isFinal(face.getModifiers()));
        checks.same("methods", documentFace(), classFace(face));
        Set<String> publicNames = new HashSet<>();
        for (Method method : face.getDeclaredMethods()) {
            if (Modifier.isPublic(method.getModifiers())) {
                publicNames.add(method.getName());
            }
        }
        for (Method method : face.getDeclaredMethods()) {
            boolean isPrivate = Modifier.isPrivate(method.getModifiers());
            checks.same(method.getName() + " is public or private", true,
                    isPrivate || Modifier.isPublic(method.getModifiers()));
            checks.same(method.getName() + " has a name of its own", true,
                    !isPrivate || !publicNames.contains(method.getName()));
        }
        checks.same("constructors", 1, face.getDeclaredConstructors().length);
        for (Constructor<?> constructor : face.getDeclaredConstructors()) {
            checks.same("the constructor's parameters", 0, constructor.getParameterCount());
            checks.same("the constructor is public", true, Modifier.isPublic(constructor.getModifiers()));
        }
        lookAtFields(checks, face);
        for (Class<?> inner : face.getDeclaredClasses()) {
            int modifiers = inner.getModifiers();
            checks.same(inner.getName() + " is hidden and static", true, Modifier.isStatic(modifiers)
                    && !Modifier.isPublic(modifiers) && !Modifier.isProtected(modifiers));
            lookAtStatics(checks, inner);
        }
        checks.end();
    }

    private static void lookAtFields(Checks checks, Class<?> face) {
        for (Field field : face.getDeclaredFields()) {
            checks.same(field.getName() + " is private", true, Modifier.isPrivate(field.getModifiers()));
        }
        lookAtStatics(checks, face);
    }

    private static void lookAtStatics(Checks checks, Class<?> type) {
        for (Field field : type.getDeclaredFields()) {
            int modifiers = field.getModifiers();
            checks.same(field.getName() + " is final if static", true,
                    !Modifier.isStatic(modifiers) || Modifier.isFinal(modifiers));
        }
    }

    /** The method lines of the document's java block, as 'int loses(int) throws ...'. */
    private static String documentFace() throws Exception {
        List<String> rows = new ArrayList<>();
        Path root = Path.of(System.getProperty("shared", "../shared"));
        for (String line : Files.readAllLines(root.resolve("DOC.md"))) {
            String row = line.trim();
            if (!line.startsWith("    public ") || !row.endsWith(";") || row.contains(" MouthpieceRow(")) {
                continue;
            }
            row = row.substring("public ".length(), row.length() - 1);
            String parameters = row.substring(row.indexOf('(') + 1, row.indexOf(')'));
            StringBuilder types = new StringBuilder();
            for (String parameter : parameters.split(", ")) {
                if (!parameter.isEmpty()) {
                    types.append(types.length() == 0 ? "" : ", ").append(parameter.split(" ")[0]);
                }
            }
            rows.add(row.replace("(" + parameters + ")", "(" + types + ")"));
        }
        Collections.sort(rows);
        return String.join("\n", rows);
    }

    private static String classFace(Class<?> face) {
        List<String> rows = new ArrayList<>();
        for (Method method : face.getDeclaredMethods()) {
            if (!Modifier.isPublic(method.getModifiers())) {
                continue;
            }
            StringBuilder row = new StringBuilder();
            row.append(method.getReturnType().getSimpleName()).append(' ').append(method.getName()).append('(');
            Class<?>[] types = method.getParameterTypes();
            for (int i = 0; i < types.length; i++) {
                row.append(i == 0 ? "" : ", ").append(types[i].getSimpleName());
            }
            row.append(')');
            Class<?>[] thrown = method.getExceptionTypes();
            for (int i = 0; i < thrown.length; i++) {
                row.append(i == 0 ? " throws " : ", ").append(thrown[i].getSimpleName());
            }
            rows.add(row.toString());
        }
        Collections.sort(rows);
        return String.join("\n", rows);
    }
}
