import java.io.IOException;
import java.lang.reflect.Constructor;
import java.lang.reflect.Field;
import java.lang.reflect.Method;
import java.lang.reflect.Modifier;
import java.nio.file.Files;
import java.nio.file.Path;
import java.util.ArrayList;
import java.util.List;
import java.util.Set;
import java.util.TreeSet;

/** Compares the public face with the one in the document, and looks for members that should be private. */
public final class FaceTests {
    private static final Path DOCUMENT = Path.of("../shared/DOC.md");

    public static void main(String[] args) throws IOException {
        Set<String> due = faceOfDocument();
        Set<String> got = new TreeSet<>();
        List<String> open = new ArrayList<>();
        for (Method method : Radiohearth.class.getDeclaredMethods()) {
            if (Modifier.isPublic(method.getModifiers())) {
                got.add(plain(method.toGenericString().replace("Radiohearth.", "")));
            } else if (!Modifier.isPrivate(method.getModifiers())) {
                open.add(method.getName());
            }
        }
        for (Constructor<?> constructor : Radiohearth.class.getDeclaredConstructors()) {
            got.add(plain(constructor.toGenericString()));
        }
        for (Field field : Radiohearth.class.getDeclaredFields()) {
            if (!Modifier.isPrivate(field.getModifiers())) {
                open.add(field.getName());
            }
        }
        boolean sealed = Modifier.isFinal(Radiohearth.class.getModifiers());
        if (!got.equals(due) || !open.isEmpty() || !sealed || due.size() != 35) {
            System.out.println("face: due is " + due + "\n got is " + got);
            System.out.println("face: not private are " + open + ", final is " + sealed);
            System.exit(1);
        }
        System.out.println("face: as the document says");
    }

    private static Set<String> faceOfDocument() throws IOException {
        Set<String> face = new TreeSet<>();
        for (String line : Files.readAllLines(DOCUMENT)) {
            if (line.startsWith("    public ")) {
                String types = line.replaceAll("(int|char|long|boolean|float|double) \\w+(?=[,)])", "$1");
                face.add(plain(types.replace(";", "")));
            }
        }
        return face;
    }

    private static String plain(String signature) {
        return signature.replaceAll("java\\.(lang|util)\\.", "").replaceAll(", ?", ",").strip();
    }
}
