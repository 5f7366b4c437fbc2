import java.lang.reflect.Constructor;
import java.lang.reflect.Field;
import java.lang.reflect.Method;
import java.lang.reflect.Modifier;
import java.nio.file.Files;
import java.nio.file.Path;
import java.util.Set;
import java.util.TreeSet;
import java.util.stream.Collectors;
import java.util.stream.Stream;

/** The face of the class, and those rules of the language that can be seen from outside. */
public final class FaceTest {
    private static final Path SOURCE = Path.of("src/main/java/PageTurner.java");
    private static final Set<String> FACE = Set.of(
        "int feed(int,int,int,int,int)", "int music(int) IllegalArgumentException",
        "int fault(int) NoSuchElementException", "int count(int) NoSuchElementException",
        "int event(int,int) NoSuchElementException", "int price(int,int) IllegalArgumentException",
        "int heard(int,int) IllegalArgumentException", "int back()", "int again()",
        "int place(int) NoSuchElementException", "int cost(int,int) NoSuchElementException",
        "int sure() NoSuchElementException", "int tempo(boolean)", "long time(int) IllegalArgumentException",
        "long turnsAt()", "long cue()", "int lead(int) IllegalArgumentException");

    private static void yes(String what, boolean holds) {
        Check.same(what, holds ? 1 : 0, 1);
    }

    private static String told(Method method) {
        String throwing = Stream.of(method.getExceptionTypes()).map(Class::getSimpleName)
            .collect(Collectors.joining(","));
        String told = method.getReturnType() + " " + method.getName() + Stream.of(method.getParameterTypes())
            .map(Class::getName).collect(Collectors.joining(",", "(", ")"));
        return throwing.isEmpty() ? told : told + " " + throwing;
    }

    private static void face() {
        Set<String> open = new TreeSet<>();
        Set<String> names = FACE.stream().map(f -> f.replaceAll("^\\w+ (\\w+).*", "$1")).collect(Collectors.toSet());
        for (Method method : PageTurner.class.getDeclaredMethods()) {
            if (!Modifier.isPrivate(method.getModifiers())) {
                open.add(told(method));
                yes(method + " is public", Modifier.isPublic(method.getModifiers()));
            } else {
                yes(method + " bears no public name", !names.contains(method.getName()));
            }
        }
        yes("the methods " + open, open.equals(FACE));
        for (Field field : PageTurner.class.getDeclaredFields()) {
            yes(field + " is private or NONE", Modifier.isPrivate(field.getModifiers()) || field.getName().equals("NONE"));
        }
        Constructor<?>[] constructors = PageTurner.class.getDeclaredConstructors();
        yes("one public constructor", constructors.length == 1 && Modifier.isPublic(constructors[0].getModifiers())
            && constructors[0].getParameterCount() == 0);
        yes("public and final", PageTurner.class.getModifiers() == (Modifier.PUBLIC | Modifier.FINAL));
        yes("twelve classes at most", PageTurner.class.getDeclaredClasses().length <= 11);
        for (Class<?> inside : PageTurner.class.getDeclaredClasses()) {
            yes(inside + " is private and static", Modifier.isPrivate(inside.getModifiers())
                && Modifier.isStatic(inside.getModifiers()));
            for (Method method : inside.getDeclaredMethods()) {
                yes(method + " bears no public name", !names.contains(method.getName()));
            }
            fields(inside);
        }
        fields(PageTurner.class);
    }

    private static void fields(Class<?> type) {
        int own = 0;
        for (Field field : type.getDeclaredFields()) {
            if (!Modifier.isStatic(field.getModifiers())) {
                own++;
            } else {
                yes(field + " is final", Modifier.isFinal(field.getModifiers()));
            }
        }
        yes(type + " has twenty fields at most, has " + own, own <= 20);
    }

    private static void source() throws java.io.IOException {
        String source = Files.readString(SOURCE);
        String code = source.replaceAll("(?s)/\\*.*?\\*/", "").replaceAll("//.*", "");
        String[] words = {"try", "catch", "finally", "synchronized", "assert", "package", "instanceof", "static \\{",
            "->", "\\w::", "double", "float", "Math\\.\\w+Exact", "System\\.", "Random", "Thread"};
        for (String word : words) {
            boolean there = java.util.regex.Pattern.compile("(?<!\\w)" + word).matcher(code).find();
            yes("no " + word, !there);
        }
        yes("one import", code.split("\\bimport\\b", -1).length == 2);
        boolean fixed = java.util.regex.Pattern.compile("\\w\\[[A-Z0-9]\\w*\\]")
            .matcher(code.replaceAll("new \\w+\\[.*?\\]", "")).find();
        yes("no index that is a constant, not looked at", !fixed);
        String[] lines = source.split("\n");
        for (int i = 0; i < lines.length; i++) {
            yes("a line of 120 signs at most, line " + (i + 1), lines[i].length() <= 120);
            if (lines[i].matches("( {4}| {8})\\w.*\\(.*\\{")) {
                yes("sixty lines at most, the method at line " + (i + 1), methodLines(lines, i) <= 60);
            }
        }
    }

    /** A method ends where a brace stands as deep as its first line. */
    private static int methodLines(String[] lines, int first) {
        String end = lines[first].replaceAll("\\S.*", "") + "}";
        int last = first;
        while (last < lines.length - 1 && !lines[last].equals(end)) {
            last++;
        }
        return last - first + 1;
    }

    public static void main(String[] args) throws java.io.IOException {
        face();
        source();
        Check.finish();
    }
}
