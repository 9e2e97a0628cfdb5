import java.io.IOException;
import java.lang.reflect.Constructor;
import java.lang.reflect.Field;
import java.lang.reflect.Member;
import java.lang.reflect.Method;
import java.lang.reflect.Modifier;
import java.nio.file.Files;
import java.nio.file.Path;
import java.util.ArrayList;
import java.util.HashSet;
import java.util.List;
import java.util.Set;
import java.util.TreeSet;
import java.util.regex.Pattern;

/** The public face as the document writes it, and the rules of LANGUAGE.md that can be seen from outside. */
public final class FaceTest {
    private static final List<String> FACE = List.of(
            "int put(int, int) IllegalArgumentException IllegalStateException UnsupportedOperationException",
            "int remove(int) IllegalArgumentException IllegalStateException UnsupportedOperationException",
            "int open() IllegalStateException",
            "int close(boolean) IllegalStateException UnsupportedOperationException",
            "int sync()",
            "int crash(int) IllegalArgumentException",
            "int flush() IllegalStateException UnsupportedOperationException",
            "int get(int, int) IllegalArgumentException IllegalStateException NoSuchElementException"
                    + " UnsupportedOperationException",
            "int next(int, int) IllegalArgumentException NoSuchElementException UnsupportedOperationException",
            "int snapshot() IllegalStateException",
            "int release(int) IllegalArgumentException UnsupportedOperationException",
            "int spoil(int, int) IllegalArgumentException IndexOutOfBoundsException",
            "int giveUp()",
            "double effort() ArithmeticException",
            "int table(int, int) IllegalArgumentException IndexOutOfBoundsException",
            "int count(int) IllegalArgumentException");

    /** Regular expressions of what the rules bar, or what this program has no need of. */
    private static final List<String> BARRED = List.of("->", "::", "\\bsynchronized\\b", "\\bassert\\b",
            "\\bfinally\\b", "\\btry\\b", "\\bcatch\\b", "Exact\\(", "\\bRandom\\b", "\\bSystem\\.", "\\bThread\\b",
            "\\bstatic \\{", "(?m)^package\\b", "\\bprotected\\b");

    private static int wrong;

    private FaceTest() {
    }

    public static void main(String[] args) throws IOException {
        requireFace();
        requireNothingElse();
        requireClassesInside();
        requireSource(Files.readString(Path.of("src/main/java/LevelStore.java")));
        System.out.println("FaceTest: " + (wrong == 0 ? "the face is as due" : wrong + " wrong"));
        System.exit(wrong == 0 ? 0 : 1);
    }

    private static void require(boolean holds, String what) {
        if (!holds) {
            wrong++;
            System.out.println("FaceTest: does not hold: " + what);
        }
    }

    private static void requireFace() {
        Set<String> found = new TreeSet<>();
        for (Method method : LevelStore.class.getDeclaredMethods()) {
            if (Modifier.isPublic(method.getModifiers())) {
                require(!Modifier.isStatic(method.getModifiers()), method.getName() + " is no static method");
                found.add(told(method));
            }
        }
        require(found.equals(new TreeSet<>(FACE)), "the public methods are those of the document: " + found);
        int modifiers = LevelStore.class.getModifiers();
        require(Modifier.isPublic(modifiers) && Modifier.isFinal(modifiers), "the class is public and final");
        Constructor<?>[] constructors = LevelStore.class.getDeclaredConstructors();
        require(constructors.length == 1 && constructors[0].getParameterCount() == 0
                && Modifier.isPublic(constructors[0].getModifiers()), "one public constructor without parameters");
    }

    private static String told(Method method) {
        List<String> parameters = new ArrayList<>();
        for (Class<?> type : method.getParameterTypes()) {
            parameters.add(type.getSimpleName());
        }
        Set<String> thrown = new TreeSet<>();
        for (Class<?> type : method.getExceptionTypes()) {
            thrown.add(type.getSimpleName());
        }
        String head = method.getReturnType().getSimpleName() + " " + method.getName() + "("
                + String.join(", ", parameters) + ")";
        return thrown.isEmpty() ? head : head + " " + String.join(" ", thrown);
    }

    private static void requireNothingElse() {
        Set<String> publicNames = new HashSet<>();
        for (Method method : LevelStore.class.getDeclaredMethods()) {
            if (Modifier.isPublic(method.getModifiers())) {
                publicNames.add(method.getName());
            }
        }
        List<Member> others = new ArrayList<>(List.of(LevelStore.class.getDeclaredFields()));
        for (Method method : LevelStore.class.getDeclaredMethods()) {
            if (!Modifier.isPublic(method.getModifiers())) {
                others.add(method);
                require(!publicNames.contains(method.getName()), method.getName() + " has a name of its own");
            }
        }
        for (Member member : others) {
            require(Modifier.isPrivate(member.getModifiers()), member.getName() + " is private");
        }
    }

    private static void requireClassesInside() {
        List<Class<?>> all = new ArrayList<>(List.of(LevelStore.class.getDeclaredClasses()));
        require(all.size() <= 12, "at most twelve classes");
        for (Class<?> inside : all) {
            int modifiers = inside.getModifiers();
            require(Modifier.isStatic(modifiers), inside.getSimpleName() + " is static");
            require(!Modifier.isPublic(modifiers), inside.getSimpleName() + " is not public");
        }
        all.add(LevelStore.class);
        for (Class<?> each : all) {
            for (Field field : each.getDeclaredFields()) {
                require(!Modifier.isStatic(field.getModifiers()) || Modifier.isFinal(field.getModifiers()),
                        field.getName() + " is final if it is static");
            }
            for (Method method : each.getDeclaredMethods()) {
                require(method.getParameterCount() <= 7, method.getName() + " has at most seven parameters");
            }
        }
    }

    private static void requireSource(String source) {
        for (String barred : BARRED) {
            require(!Pattern.compile(barred).matcher(source).find(), "nowhere in the source: " + barred);
        }
        for (String line : source.split("\n")) {
            require(!line.startsWith("import ") || line.equals("import java.util.Arrays;")
                    || line.equals("import java.util.NoSuchElementException;"), line + " is in the list");
        }
    }
}
