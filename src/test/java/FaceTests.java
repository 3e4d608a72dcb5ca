import java.io.IOException;
import java.lang.reflect.Constructor;
import java.lang.reflect.Field;
import java.lang.reflect.Method;
import java.lang.reflect.Modifier;
import java.nio.file.Files;
import java.nio.file.Path;
import java.util.Arrays;
import java.util.Set;
import java.util.TreeSet;
import java.util.regex.Matcher;
import java.util.regex.Pattern;

/** The public face of the document, and those rules of LANGUAGE.md that a look at the class can tell. */
public final class FaceTests {
    private static final Path SOURCE = Path.of("src/main/java/SiteChoice.java");
    private static final Set<String> FACE = new TreeSet<>(Arrays.asList(
            "int district(long)",
            "int place(long, long, long, long)",
            "boolean walk(int, int, long)",
            "boolean bar(int)",
            "boolean noise(int, long)",
            "boolean budget(long)",
            "boolean fair(int, long)",
            "long ways()",
            "int run(long)",
            "boolean chosen(int)",
            "int of(int)",
            "long sum()",
            "long bound()",
            "boolean proved()",
            "int clash(int)",
            "long gain(int)",
            "int improve(int)",
            "int years(int)",
            "int open(int, int)"));
    private static int wrong = 0;

    private static void check(String what, boolean holds) {
        if (!holds) {
            wrong++;
            System.out.println("does not hold: " + what);
        }
    }

    private static String form(Method m) {
        StringBuilder text = new StringBuilder();
        text.append(m.getReturnType().getName()).append(' ').append(m.getName()).append('(');
        for (Class<?> type : m.getParameterTypes()) {
            if (text.charAt(text.length() - 1) != '(') {
                text.append(", ");
            }
            text.append(type.getName());
        }
        return text.append(')').toString();
    }

    private static void checkFace() {
        check("the class is public and final",
                Modifier.isPublic(SiteChoice.class.getModifiers()) && Modifier.isFinal(SiteChoice.class.getModifiers()));
        Set<String> met = new TreeSet<>();
        for (Method m : SiteChoice.class.getDeclaredMethods()) {
            if (Modifier.isPublic(m.getModifiers())) {
                met.add(form(m));
            } else {
                check(m + " is private", Modifier.isPrivate(m.getModifiers()));
            }
        }
        check("the methods are " + FACE + ", met were " + met, met.equals(FACE));
        Constructor<?>[] constructors = SiteChoice.class.getDeclaredConstructors();
        check("there is one constructor, public, without parameters", constructors.length == 1
                && Modifier.isPublic(constructors[0].getModifiers()) && constructors[0].getParameterCount() == 0);
        for (Field f : SiteChoice.class.getDeclaredFields()) {
            check(f + " is private, or NONE", Modifier.isPrivate(f.getModifiers())
                    || f.getName().equals("NONE") && f.getType() == int.class);
            check(f + " is final, if static", !Modifier.isStatic(f.getModifiers()) || Modifier.isFinal(f.getModifiers()));
        }
    }

    private static void checkInside() {
        Set<String> names = new TreeSet<>();
        for (String form : FACE) {
            names.add(form.replaceAll("^\\S+ (\\w+).*", "$1"));
        }
        Class<?>[] inside = SiteChoice.class.getDeclaredClasses();
        check("at most twelve classes", inside.length < 12);
        for (Class<?> c : inside) {
            check(c + " is static and not public", Modifier.isStatic(c.getModifiers()) && !Modifier.isPublic(c.getModifiers()));
            check(c + " has at most twenty fields", c.getDeclaredFields().length <= 20);
            for (Method m : c.getDeclaredMethods()) {
                check(m + " bears no public name", !names.contains(m.getName()));
                check(m + " takes at most seven parameters", m.getParameterCount() <= 7);
            }
        }
    }

    private static void checkSource() throws IOException {
        String code = Files.readString(SOURCE)
                .replaceAll("(?s)/\\*.*?\\*/", "")
                .replaceAll("//[^\n]*", "");
        String barred = "\\b(throw|throws|try|catch|synchronized|assert|protected|package)\\b|->|::|Exact\\b|\\bSystem\\.(?!arraycopy)";
        Matcher found = Pattern.compile(barred).matcher(code);
        while (found.find()) {
            check("no " + found.group() + " in the source", false);
        }
        found = Pattern.compile("import ([^;]+);").matcher(code);
        while (found.find()) {
            check("import of " + found.group(1), Set.of("java.util.Arrays", "java.util.ArrayList", "java.util.List").contains(found.group(1)));
        }
        // A call makes nothing: 'new' stands in constructors alone, that is, in assignments to fields.
        found = Pattern.compile("\n *([^\n]*\\bnew\\b[^\n]*)").matcher(code);
        while (found.find()) {
            check("only a field is made by: " + found.group(1), found.group(1).matches("\\w+ = new [^;]*;"));
        }
    }

    public static void main(String[] args) throws IOException {
        checkFace();
        checkInside();
        checkSource();
        System.out.println(wrong == 0 ? "the face is as due" : wrong + " rules do not hold");
        if (wrong != 0) {
            System.exit(1);
        }
    }
}
