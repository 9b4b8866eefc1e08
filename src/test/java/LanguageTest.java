import java.io.IOException;
import java.lang.reflect.Constructor;
import java.lang.reflect.Field;
import java.lang.reflect.Method;
import java.lang.reflect.Modifier;
import java.nio.file.Files;
import java.nio.file.Path;
import java.util.ArrayList;
import java.util.Arrays;
import java.util.HashSet;
import java.util.List;
import java.util.Set;
import java.util.TreeSet;
import java.util.regex.Matcher;
import java.util.regex.Pattern;

/** Those rules of LANGUAGE.md that can be seen in the text and in the class: words, face, sizes. */
public final class LanguageTest {
    private static final String[] FACE = {
        "int fonts(int,int,int,int)", "int ofFont(int,int)", "int width(int,int)", "int write(int,int,int,int)",
        "int erase(int)", "int letter(int)", "int ofCluster(int,int)", "int ofRun(int,int)", "int prefer(int)",
        "int latest(int)", "int tally()", "long check()", "int day(int,int,int,int,int)", "int best(int)",
        "int without(int)", "int enough(int)", "int reading(int)", "int back(int)", "int kinds(int)",
        "int widths(int)", "long odds(int,int)", "int sheet(int,int,int)", "int lose(int)", "int put(int,int,int)",
        "long cell(int,int,int)", "int copy(int,int,int,int,int)", "int tell(int)", "int sample(int)",
        "int as(int,int)", "int trace()", "int fault()", "int many(int)"};
    private static final String[] BARRED = {"throw", "throws", "try", "catch", "synchronized", "assert", "import",
        "package", "goto", "native", "volatile", "transient", "hashCode", "toString", "equals", "Object", "Exception",
        "Thread", "->", "::", "@"};

    private static int wrong;

    public static void main(String[] args) throws IOException {
        String text = Files.readString(Path.of("src/main/java/FontRuns.java"));
        words(withoutComments(text));
        members();
        names();
        sizes(withoutComments(text));
        System.out.println(wrong == 0 ? "the rules are kept" : wrong + " rules are broken");
        if (wrong != 0) {
            System.exit(1);
        }
    }

    private static void broken(String what) {
        wrong++;
        System.out.println(what);
    }

    private static String withoutComments(String text) {
        return text.replaceAll("(?s)/\\*.*?\\*/", "").replaceAll("//[^\n]*", "");
    }

    private static void words(String code) {
        for (String word : BARRED) {
            boolean isName = Character.isLetter(word.charAt(0));
            String pattern = isName ? "\\b" + word + "\\b" : Pattern.quote(word);
            if (Pattern.compile(pattern).matcher(code).find()) {
                broken("barred: " + word);
            }
        }
    }

    private static void members() {
        if (!Modifier.isPublic(FontRuns.class.getModifiers()) || !Modifier.isFinal(FontRuns.class.getModifiers())) {
            broken("the class is not public and final");
        }
        Set<String> face = new TreeSet<>();
        for (Method m : FontRuns.class.getDeclaredMethods()) {
            if (Modifier.isPublic(m.getModifiers())) {
                String types = String.join(",", Arrays.stream(m.getParameterTypes()).map(Class::getName).toList());
                face.add(m.getReturnType() + " " + m.getName() + "(" + types + ")");
            } else if (!Modifier.isPrivate(m.getModifiers())) {
                broken("neither public nor private: " + m);
            }
        }
        if (!face.equals(new TreeSet<>(List.of(FACE)))) {
            broken("the face is " + face);
        }
        for (Constructor<?> c : FontRuns.class.getDeclaredConstructors()) {
            if (!Modifier.isPublic(c.getModifiers()) || c.getParameterCount() > 0) {
                broken("constructor " + c);
            }
        }
        Set<String> constants = new TreeSet<>();
        for (Field f : FontRuns.class.getDeclaredFields()) {
            if (!Modifier.isPrivate(f.getModifiers())) {
                constants.add(f.getType() + " " + f.getName());
            }
        }
        List<String> due = List.of("int UNKNOWN", "int OUTSIDE", "int STATE", "int FULL", "int NONE", "long LOST");
        if (!constants.equals(new TreeSet<>(due)) || FontRuns.LOST != Long.MIN_VALUE) {
            broken("constants " + constants);
        }
    }

    private static void names() {
        Set<String> open = new HashSet<>();
        List<Method> others = new ArrayList<>();
        for (Method m : FontRuns.class.getDeclaredMethods()) {
            if (Modifier.isPublic(m.getModifiers())) {
                open.add(m.getName());
            } else {
                others.add(m);
            }
        }
        for (Class<?> inside : FontRuns.class.getDeclaredClasses()) {
            others.addAll(List.of(inside.getDeclaredMethods()));
            if (!Modifier.isStatic(inside.getModifiers()) || Modifier.isPublic(inside.getModifiers())) {
                broken("not static or public: " + inside);
            }
            staticFieldsAreFinal(inside);
        }
        staticFieldsAreFinal(FontRuns.class);
        for (Method m : others) {
            if (open.contains(m.getName())) {
                broken("bears the name of a public one: " + m);
            }
        }
    }

    private static void staticFieldsAreFinal(Class<?> type) {
        int own = 0;
        for (Field f : type.getDeclaredFields()) {
            boolean isStatic = Modifier.isStatic(f.getModifiers());
            if (isStatic && !Modifier.isFinal(f.getModifiers())) {
                broken("static, not final: " + f);
            }
            own += isStatic ? 0 : 1;
        }
        if (own > 20) {
            broken("too many fields: " + type);
        }
    }

    private static void sizes(String code) {
        if (FontRuns.class.getDeclaredClasses().length > 11) {
            broken("too many classes");
        }
        Matcher head = Pattern.compile("(?m)^( {4}| {8})[a-z][^;={}]*\\(([^)]*)\\) \\{$").matcher(code);
        int methods = 0;
        while (head.find()) {
            methods++;
            int end = code.indexOf("\n" + head.group(1) + "}", head.start());
            if (code.substring(head.start(), end).lines().count() > 60) {
                broken("too long: " + head.group());
            }
            if (head.group(2).split(",").length > 7) {
                broken("too many parameters: " + head.group());
            }
        }
        if (methods < FACE.length) {
            broken("methods were not found: " + methods);
        }
    }
}
