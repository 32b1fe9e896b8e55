import java.io.IOException;
import java.lang.reflect.Constructor;
import java.lang.reflect.Field;
import java.lang.reflect.Method;
import java.lang.reflect.Modifier;
import java.nio.file.Files;
import java.nio.file.Path;
import java.util.ArrayList;
import java.util.List;
import java.util.Set;
import java.util.TreeSet;

/** The public face stands whole and alone, and the source keeps to what a glance can tell of LANGUAGE.md. */
public final class FaceTest {
    private static final String[] FACE = {
        "int feed(int,int,int,int,int)", "boolean end(int)", "int tower()", "int fault()", "int child(int,int)",
        "int has(int,int)", "int floor(int,int)", "int uncle(int,int)", "int law(int)", "int now(int)",
        "int send(int,int)", "int hang(int)", "int take(int)", "int serve(int)", "int back(int)", "int hours(int)",
        "int undo()", "int when(int)", "int plan(int)", "int planAt(int)", "int passes()", "int been(int)",
        "int beenAt(int)", "int ask()", "int hung(int)", "int hanging()", "int holds(int,int)", "int web(int)",
        "int bargain()", "int bargained(int)", "int cover(int)", "int byteAt(int)", "int drawn(int,int)",
        "int odds(int,int,int)", "int book(int)", "int told(int)", "int sentence()", "int said(int)",
        "boolean image(int)", "boolean restore(int)", "int count(int)"};

    private static String tell(Method m) {
        List<String> types = new ArrayList<>();
        for (Class<?> type : m.getParameterTypes()) {
            types.add(type.getName());
        }
        return m.getReturnType().getName() + " " + m.getName() + "(" + String.join(",", types) + ")";
    }

    private static void face(Check check) {
        Class<?> face = DumbwaiterYoung.class;
        check.yes("public and final", Modifier.isPublic(face.getModifiers()) && Modifier.isFinal(face.getModifiers()));
        Set<String> found = new TreeSet<>();
        Set<String> names = new TreeSet<>();
        for (Method m : face.getDeclaredMethods()) {
            if (!Modifier.isPrivate(m.getModifiers())) {
                check.yes(m + " is public, not static", Modifier.isPublic(m.getModifiers()) && !Modifier.isStatic(m.getModifiers()));
                found.add(tell(m));
                names.add(m.getName());
            }
        }
        check.due("how many methods", found.size(), FACE.length);
        for (String method : FACE) {
            check.yes(method, found.contains(method));
        }
        ownMethods(check, face, names);
        for (Class<?> inside : face.getDeclaredClasses()) {
            check.yes(inside + " is static and not public", Modifier.isStatic(inside.getModifiers()) && !Modifier.isPublic(inside.getModifiers()));
            ownMethods(check, inside, names);
        }
        for (Field f : face.getDeclaredFields()) {
            check.yes(f + " is private, or NONE", Modifier.isPrivate(f.getModifiers()) || f.getName().equals("NONE"));
        }
        Constructor<?>[] made = face.getDeclaredConstructors();
        check.due("constructors", made.length, 1);
        check.due("its parameters", made[0].getParameterCount(), 0);
        check.due("NONE", DumbwaiterYoung.NONE, -1);
    }

    private static void ownMethods(Check check, Class<?> owner, Set<String> names) {
        for (Method m : owner.getDeclaredMethods()) {
            if (owner != DumbwaiterYoung.class || Modifier.isPrivate(m.getModifiers())) {
                check.no(m + " bears a name of the face", names.contains(m.getName()));
            }
            check.yes(m + " has seven parameters at most", m.getParameterCount() <= 7);
        }
    }

    /** Rule 11: how many classes, and fields of each beside its constants; rule 5: no static field that is not final. */
    private static void sizes(Check check) {
        List<Class<?>> classes = new ArrayList<>(List.of(DumbwaiterYoung.class.getDeclaredClasses()));
        classes.add(DumbwaiterYoung.class);
        check.yes("some twelve classes", classes.size() <= 12);
        for (Class<?> owner : classes) {
            int fields = 0;
            for (Field f : owner.getDeclaredFields()) {
                boolean isStatic = Modifier.isStatic(f.getModifiers());
                fields += isStatic ? 0 : 1;
                check.yes(f + " is final, if it is static", !isStatic || Modifier.isFinal(f.getModifiers()));
            }
            check.yes(owner + " has some twenty fields", fields <= 20);
        }
    }

    private static void source(Check check) throws IOException {
        Path path = Path.of("src/main/java/DumbwaiterYoung.java");
        String text = Files.readString(path);
        String[] ruledOut = {"->", "::", "catch", "finally", "synchronized", "assert", "Exact", "package ", "System.out",
            "Random", "nanoTime", "currentTimeMillis", "Thread", ".hashCode", ".toString", ".ordinal", "protected "};
        for (String word : ruledOut) {
            check.no("the source has " + word, text.contains(word));
        }
        for (String line : text.split("\n")) {
            if (line.startsWith("import ")) {
                check.yes(line, line.equals("import java.util.Arrays;") || line.equals("import java.util.NoSuchElementException;"));
            }
        }
    }

    public static void main(String[] args) throws IOException {
        Check check = new Check("FaceTest");
        face(check);
        sizes(check);
        source(check);
        check.finish();
    }
}
