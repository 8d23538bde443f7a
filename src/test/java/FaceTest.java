import java.io.IOException;
import java.lang.reflect.Constructor;
import java.lang.reflect.Field;
import java.lang.reflect.Method;
import java.lang.reflect.Modifier;
import java.nio.file.Files;
import java.nio.file.Path;
import java.util.ArrayList;
import java.util.Arrays;
import java.util.Collections;
import java.util.List;

/** The document's public face: every member of it, with its exceptions, and no other. */
public final class FaceTest {
    private static final List<String> DUE = List.of(
            "int arrive(int int int int) IllegalArgumentException",
            "int bay(int int) IllegalArgumentException",
            "int cell(int) IllegalArgumentException",
            "int gone(int) IllegalArgumentException IllegalStateException",
            "int leave(int) IllegalArgumentException IllegalStateException",
            "int look(int) IllegalArgumentException",
            "int plan(int int) IllegalArgumentException IllegalStateException IndexOutOfBoundsException",
            "int tick(int) IllegalArgumentException",
            "void jam(int boolean) IllegalArgumentException",
            "void person(int boolean) IllegalArgumentException IllegalStateException",
            "void power(boolean) IllegalStateException",
            "void shut(int) IllegalArgumentException IllegalStateException");

    public static void main(String[] args) throws IOException {
        int modifiers = ParkTower.class.getModifiers();
        Check.same("public and final", modifiers & ~Modifier.PUBLIC & ~Modifier.FINAL, 0);
        Check.same("both", Integer.bitCount(modifiers), 2);
        methods();
        for (Constructor<?> constructor : ParkTower.class.getDeclaredConstructors()) {
            Check.same("public constructor without parameters", constructor.getParameterCount(), 0);
            Check.same("its modifiers", constructor.getModifiers(), Modifier.PUBLIC);
        }
        for (Field field : ParkTower.class.getDeclaredFields()) {
            Check.same("private field " + field, Modifier.isPrivate(field.getModifiers()) ? 1 : 0, 1);
        }
        asWritten();
        Check.end();
    }

    /** The face as the document writes it, with the names of the parameters, which the class no longer has. */
    private static void asWritten() throws IOException {
        String program = Files.readString(Path.of("src", "main", "java", "ParkTower.java")).replaceAll("\\s+", " ");
        int found = 0;
        for (String line : Files.readAllLines(Path.of("..", "shared", "DOC.md"))) {
            if (line.startsWith("    public ")) {
                found++;
                String due = line.strip().replace(";", " {");
                Check.same("the program's text has " + due, program.contains(due) ? 1 : 0, 1);
            }
        }
        Check.same("lines of the document's face", found, 13);
    }

    private static void methods() {
        List<String> found = new ArrayList<>();
        for (Method method : ParkTower.class.getDeclaredMethods()) {
            if (!Modifier.isPrivate(method.getModifiers())) {
                found.add(textOf(method));
            }
        }
        Collections.sort(found);
        if (!found.equals(DUE)) {
            Check.fail("the face is " + found);
        }
    }

    private static String textOf(Method method) {
        StringBuilder text = new StringBuilder();
        text.append(method.getReturnType().getSimpleName()).append(' ').append(method.getName());
        text.append('(').append(names(method.getParameterTypes())).append(") ");
        return text.append(names(method.getExceptionTypes())).toString();
    }

    private static String names(Class<?>[] types) {
        return String.join(" ", Arrays.stream(types).map(Class::getSimpleName).toList());
    }
}
