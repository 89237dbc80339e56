import java.lang.reflect.Field;
import java.lang.reflect.Method;
import java.lang.reflect.Modifier;
import java.nio.file.Files;
import java.nio.file.Path;
import java.util.ArrayList;
import java.util.Arrays;
import java.util.HashSet;
import java.util.List;
import java.util.Set;
import java.util.TreeSet;
import java.util.regex.Matcher;
import java.util.regex.Pattern;

/** The face of the document, and those rules of LANGUAGE.md that the source shows by itself. */
public final class LanguageTest {
    private static final String[] FACE = {
        "boolean bend(int,int,boolean)", "boolean breaks(int,boolean)", "boolean rest(int)",
        "boolean silent(int,int,boolean)", "boolean start(int,int)", "boolean tear(int,boolean)",
        "int arrange()", "int best(int)", "int comb(int,int)", "int crowd(int)", "int crowds()",
        "int fault(int)", "int faults()", "int feed(int,int,int,int,int)", "int fewest(int)",
        "int fit(int,int)", "int keeps(int,int,int)", "int listen()", "int note(int,int,int)",
        "int pin(int,int)", "int plucks(int,int)", "int read(int,int)", "int suspect(int,int)",
        "int tooth(int)", "int tune(int,int)"};
    private static final String[] FORBIDDEN = {"->", "::", "\\bfinally\\b", "\\bassert\\b",
        "\\bsynchronized\\b", "\\btry\\b", "\\bcatch\\b", "\\bpackage\\b", "\\bstatic \\{",
        "\\bhashCode\\b", "\\btoString\\b", "Exact\\b", "\\bwhile \\(true\\)", "\\bdouble\\b",
        "\\bfloat\\b", "[^\\x00-\\x7f]", "\\bprotected\\b", "\\bSystem\\b", "\\bthis\\b"};
    private static int wrong = 0;

    public static void main(String[] args) throws Exception {
        String source = Files.readString(Path.of("src/main/java/MusicBoxShop.java"));
        face();
        nestedClasses();
        forbiddenWords(withoutComments(source));
        methods(withoutComments(source));
        System.out.println(wrong == 0 ? "the rules are kept" : wrong + " rules are broken");
        if (wrong != 0) {
            System.exit(1);
        }
    }

    private static void fail(String what) {
        wrong++;
        System.out.println(what);
    }

    private static void face() {
        Class<?> shop = MusicBoxShop.class;
        if (!Modifier.isPublic(shop.getModifiers()) || !Modifier.isFinal(shop.getModifiers())) {
            fail("the class is not public and final");
        }
        Set<String> found = new TreeSet<>();
        Set<String> privates = new HashSet<>();
        for (Method method : shop.getDeclaredMethods()) {
            if (Modifier.isPrivate(method.getModifiers())) {
                privates.add(method.getName());
                continue;
            }
            if (!Modifier.isPublic(method.getModifiers())) {
                fail("a method that is neither public nor private: " + method);
            }
            List<String> types = new ArrayList<>();
            for (Class<?> type : method.getParameterTypes()) {
                types.add(type.getName());
            }
            found.add(method.getReturnType() + " " + method.getName() + "("
                    + String.join(",", types) + ")");
        }
        if (!found.equals(new TreeSet<>(Arrays.asList(FACE)))) {
            fail("the face is " + found);
        }
        for (Class<?> nested : shop.getDeclaredClasses()) {
            for (Method method : nested.getDeclaredMethods()) {
                privates.add(method.getName());
            }
        }
        for (String line : FACE) {
            String name = line.substring(line.indexOf(' ') + 1, line.indexOf('('));
            if (privates.contains(name)) {
                fail("a private method bears a public name: " + name);
            }
        }
        for (Field field : shop.getDeclaredFields()) {
            boolean open = field.getName().equals("NONE");
            if (open != Modifier.isPublic(field.getModifiers())
                    || open == Modifier.isPrivate(field.getModifiers())) {
                fail("a field that is open, or NONE that is not: " + field);
            }
        }
        if (shop.getDeclaredConstructors().length != 1 || shop.getConstructors().length != 1) {
            fail("there is not just one constructor, public");
        }
    }

    private static void nestedClasses() {
        Class<?>[] inside = MusicBoxShop.class.getDeclaredClasses();
        if (inside.length > 11) {
            fail("more than twelve classes");
        }
        for (Class<?> nested : inside) {
            if (!Modifier.isStatic(nested.getModifiers())
                    || Modifier.isPublic(nested.getModifiers())) {
                fail("a class inside that is not static, or open: " + nested);
            }
            int fields = 0;
            for (Field field : nested.getDeclaredFields()) {
                if (!Modifier.isStatic(field.getModifiers())) {
                    fields++;
                } else if (!Modifier.isFinal(field.getModifiers())) {
                    fail("static state: " + field);
                }
            }
            if (fields > 20) {
                fail("more than twenty fields: " + nested);
            }
        }
    }

    private static String withoutComments(String source) {
        return source.replaceAll("(?s)/\\*.*?\\*/", "").replaceAll("//[^\n]*", "");
    }

    private static void forbiddenWords(String code) {
        for (String word : FORBIDDEN) {
            Matcher matcher = Pattern.compile(word).matcher(code);
            if (matcher.find()) {
                fail("not in this Java: " + matcher.group());
            }
        }
        Matcher imports = Pattern.compile("import ([^;]*);").matcher(code);
        while (imports.find()) {
            if (!List.of("java.util.Arrays", "java.util.NoSuchElementException")
                    .contains(imports.group(1))) {
                fail("an import: " + imports.group(1));
            }
        }
    }

    private static void methods(String code) {
        Matcher method = Pattern.compile(
                "(?m)^( {4}| {8})(?=\\S)(?!.*\\b(?:class|new|return|throw|else)\\b)[\\w\\[\\] ]*\\w+"
                + "\\(([^()]*)\\)[\\w ]* \\{$").matcher(code);
        int count = 0;
        while (method.find()) {
            count++;
            int end = code.indexOf("\n" + method.group(1) + "}", method.end());
            long lines = code.substring(method.start(), end).lines().count() + 1;
            if (lines > 60) {
                fail("a method of " + lines + " lines: " + method.group().trim());
            }
            if (method.group(2).split(",").length > 7) {
                fail("more than seven parameters: " + method.group().trim());
            }
        }
        if (count < 100) {
            fail("only " + count + " methods were seen: this test no longer fits the source");
        }
    }
}
