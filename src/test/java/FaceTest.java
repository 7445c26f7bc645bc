import java.io.IOException;
import java.lang.reflect.Constructor;
import java.lang.reflect.Field;
import java.lang.reflect.Method;
import java.lang.reflect.Modifier;
import java.nio.file.Files;
import java.nio.file.Path;
import java.util.ArrayList;
import java.util.Arrays;
import java.util.HashSet;
import java.util.List;
import java.util.Set;
import java.util.TreeSet;

/** The public face: every method of the document with its exceptions, and no other member that is not private. */
public final class FaceTest {
    private static final String[] FACE = {
        "int ground(int,int,char) IllegalArgumentException UnsupportedOperationException",
        "int reference(int,int,char) IllegalArgumentException UnsupportedOperationException",
        "int depth(int,int,int) IllegalArgumentException UnsupportedOperationException",
        "int water(int,int,int) IllegalArgumentException UnsupportedOperationException",
        "int bend(int,int,int,int) IllegalArgumentException UnsupportedOperationException",
        "int bore(int,char) IllegalArgumentException IllegalStateException",
        "char guess(int) IllegalArgumentException",
        "int doubt(int) IllegalArgumentException",
        "int pressure(int) IllegalArgumentException",
        "int lower(int) IllegalArgumentException",
        "int upper(int) IllegalArgumentException",
        "boolean foam(boolean)",
        "int worn(int) IndexOutOfBoundsException",
        "int change(int) IndexOutOfBoundsException UnsupportedOperationException IllegalStateException",
        "int steer(int,int) IllegalArgumentException",
        "char bars(int) IllegalArgumentException",
        "int advance(int) IllegalArgumentException UnsupportedOperationException IllegalStateException",
        "int rings()",
        "int off(int,boolean) IndexOutOfBoundsException",
        "int heading(boolean)",
        "int rotation(int) IndexOutOfBoundsException",
        "int plan(int) IllegalArgumentException",
        "long squares(int) IllegalArgumentException",
        "int offRings()",
        "int grout(int,int) IndexOutOfBoundsException IllegalArgumentException UnsupportedOperationException",
        "int lost(int) IndexOutOfBoundsException",
        "int house(int,int,int) IllegalArgumentException IllegalStateException",
        "int settles(int,boolean) IndexOutOfBoundsException",
        "int tilt(int) IndexOutOfBoundsException",
        "int damage(int) IndexOutOfBoundsException",
        "int read(int) IndexOutOfBoundsException",
        "char alarm(int) IndexOutOfBoundsException",
        "int lift(int,boolean,int) IndexOutOfBoundsException IllegalArgumentException IllegalStateException",
        "int deliver(int) IllegalArgumentException UnsupportedOperationException",
        "int muck()",
        "int lorries(int) IllegalArgumentException UnsupportedOperationException IllegalStateException",
        "int now()",
        "int pause(int,char,char) IllegalArgumentException IllegalStateException",
        "int first(char) IllegalArgumentException",
        "int waited(char) IllegalArgumentException",
        "int events()",
        "boolean notice(int) IndexOutOfBoundsException UnsupportedOperationException",
        "int claimed()",
        "int count(char) IllegalArgumentException",
        "float groutShare() ArithmeticException",
        "double meanMinutes() ArithmeticException",
        "long checksum()",
        "boolean isSound()",
    };

    public static void main(String[] args) throws IOException {
        face();
        asWritten();
        constructor();
        members();
        Check.end();
    }

    private static void face() {
        List<String> found = new ArrayList<>();
        for (Method method : Boringhead.class.getDeclaredMethods()) {
            if (!Modifier.isPrivate(method.getModifiers())) {
                found.add(row(method));
            }
        }
        Check.same("the face", new TreeSet<>(found).toString(), new TreeSet<>(Arrays.asList(FACE)).toString());
    }

    /** Each line of the document's face stands in the source as it is there, with the names of what a call is given. */
    private static void asWritten() throws IOException {
        Path doc = Path.of("../shared/DOC.md");
        if (!Files.exists(doc)) {
            System.out.println("no document at " + doc + ": its face is not compared");
            return;
        }
        List<String> source = Files.readAllLines(Path.of("src/main/java/Boringhead.java"));
        int many = 0;
        for (String line : Files.readAllLines(doc)) {
            if (line.startsWith("    public ")) {
                many++;
                Check.same("stands in the source: " + line, source.contains(line.replace(";", " {")), true);
            }
        }
        Check.same("lines of the document's face", many, FACE.length + 1);
    }

    private static String row(Method method) {
        StringBuilder row = new StringBuilder(Modifier.isPublic(method.getModifiers()) ? "" : "not public: ");
        row.append(method.getReturnType().getSimpleName()).append(' ').append(method.getName()).append('(');
        for (int i = 0; i < method.getParameterCount(); i++) {
            row.append(i > 0 ? "," : "").append(method.getParameterTypes()[i].getSimpleName());
        }
        row.append(')');
        for (Class<?> type : method.getExceptionTypes()) {
            row.append(' ').append(type.getSimpleName());
        }
        return row.toString();
    }

    private static void constructor() {
        Constructor<?>[] found = Boringhead.class.getDeclaredConstructors();
        Check.same("constructors", found.length, 1);
        Check.same("the constructor is public", Modifier.isPublic(found[0].getModifiers()), true);
        Check.same("its parameters", found[0].getParameterCount(), 0);
        Check.same("the class", Modifier.toString(Boringhead.class.getModifiers()), "public final");
    }

    private static void members() {
        for (Field field : Boringhead.class.getDeclaredFields()) {
            int modifiers = field.getModifiers();
            Check.same("private is " + field.getName(), Modifier.isPrivate(modifiers), true);
            Check.same("final if static is " + field.getName(), Modifier.isFinal(modifiers) || !Modifier.isStatic(modifiers), true);
        }
        Set<String> names = new HashSet<>();
        for (String row : FACE) {
            names.add(row.substring(row.indexOf(' ') + 1, row.indexOf('(')));
        }
        for (Method method : Boringhead.class.getDeclaredMethods()) {
            if (Modifier.isPrivate(method.getModifiers())) {
                Check.same("a name of the face is " + method.getName(), names.contains(method.getName()), false);
            }
        }
        for (Class<?> inside : Boringhead.class.getDeclaredClasses()) {
            Check.same("static is " + inside.getName(), Modifier.isStatic(inside.getModifiers()), true);
            Check.same("public is " + inside.getName(), Modifier.isPublic(inside.getModifiers()), false);
        }
    }
}
