import java.io.IOException;
import java.lang.reflect.Constructor;
import java.lang.reflect.Field;
import java.lang.reflect.Method;
import java.lang.reflect.Modifier;
import java.nio.charset.StandardCharsets;
import java.nio.file.Files;
import java.nio.file.Path;
import java.util.Map;
import java.util.TreeMap;
import java.util.regex.Matcher;
import java.util.regex.Pattern;

/** The face of the document, and those rules of LANGUAGE.md that a look at the text can tell. */
public final class LanguageTest {
    private static final Path SOURCE = Path.of("src/main/java/NineteenSecondsLeft.java");
    private static final String FACE =
            "letter/1 hall/0 player/2 hits/3 set/2 here/0 of/3 best/3 from/2 point/0 twoOrThree/0 "
            + "rebound/0 foul/1 whom/1 freed/1 doubled/2 howGood/2 call/0 on/0 byLaw/1 fairest/0 "
            + "hand/1 row/1 judge/0 lots/2 image/0 restore/0 count/1";

    private int passed = 0;
    private int failed = 0;

    public static void main(String[] args) throws IOException {
        LanguageTest test = new LanguageTest();
        test.face();
        test.classesInside();
        test.text(Files.readString(SOURCE, StandardCharsets.UTF_8));
        System.out.println(test.passed + " passed, " + test.failed + " failed");
        if (test.failed != 0) {
            System.exit(1);
        }
    }

    private void due(String what, boolean holds) {
        if (holds) {
            passed++;
        } else {
            failed++;
            System.out.println("not so: " + what);
        }
    }

    private static Map<String, Integer> faceOfDocument() {
        Map<String, Integer> face = new TreeMap<>();
        for (String one : FACE.split(" ")) {
            face.put(one.substring(0, one.indexOf('/')), one.charAt(one.length() - 1) - '0');
        }
        return face;
    }

    private void face() {
        Class<?> c = NineteenSecondsLeft.class;
        Map<String, Integer> face = faceOfDocument();
        due("public and final", Modifier.isPublic(c.getModifiers()) && Modifier.isFinal(c.getModifiers()));
        Constructor<?>[] constructors = c.getDeclaredConstructors();
        due("one public constructor", constructors.length == 1
                && Modifier.isPublic(constructors[0].getModifiers())
                && constructors[0].getParameterCount() == 0);
        int many = 0;
        for (Method m : c.getDeclaredMethods()) {
            Integer parameters = face.get(m.getName());
            if (parameters == null) {
                due(m + " is private", m.isSynthetic() || Modifier.isPrivate(m.getModifiers()));
                continue;
            }
            many++;
            boolean ints = m.getReturnType() == int.class && m.getParameterCount() == parameters;
            for (Class<?> type : m.getParameterTypes()) {
                ints &= type == int.class;
            }
            due(m + " is of the face", ints && Modifier.isPublic(m.getModifiers())
                    && !Modifier.isStatic(m.getModifiers()));
        }
        due("all of the face", many == face.size());
    }

    private void classesInside() {
        Class<?>[] inside = NineteenSecondsLeft.class.getDeclaredClasses();
        due("at most some twelve classes", inside.length < 12);
        fields(NineteenSecondsLeft.class);
        for (Class<?> c : inside) {
            int modifiers = c.getModifiers();
            due(c + " is static and not public", Modifier.isStatic(modifiers)
                    && !Modifier.isPublic(modifiers) && !Modifier.isProtected(modifiers));
            fields(c);
            for (Method m : c.getDeclaredMethods()) {
                due(m + " bears no name of the face", !faceOfDocument().containsKey(m.getName()));
                due(m + " has at most seven parameters", m.getParameterCount() <= 7);
            }
        }
    }

    private void fields(Class<?> c) {
        int many = 0;
        for (Field f : c.getDeclaredFields()) {
            int modifiers = f.getModifiers();
            due(f + " is private", f.isSynthetic() || Modifier.isPrivate(modifiers));
            due(f + " is final if static", !Modifier.isStatic(modifiers) || Modifier.isFinal(modifiers));
            many += Modifier.isStatic(modifiers) ? 0 : 1;
        }
        due(c + " has at most some twenty fields", many <= 20);
    }

    private void text(String source) {
        due("signs 1 to 126 alone", source.chars().allMatch(c -> c > 0 && c < 127));
        String code = source.replaceAll("(?s)/\\*.*?\\*/", "").replaceAll("//[^\n]*", "")
                .replaceAll("\"[^\"\n]*\"", "\"\"").replaceAll("'[^'\n]'", "' '");
        String[] never = {"throw", "throws", "try", "catch", "finally", "synchronized", "assert",
            "import", "package", "protected", "double", "float", "native", "volatile", "System.out",
            "equals", "hashCode", "toString", "instanceof", "var", "yield", "record", "interface"};
        for (String word : never) {
            Matcher m = Pattern.compile("\\b" + Pattern.quote(word) + "\\b").matcher(code);
            due("no " + word, !m.find());
        }
        due("no lambda, no arrow", !code.contains("->"));
        due("no method reference", !code.contains("::"));
        due("no static block", !Pattern.compile("\\bstatic\\s*\\{").matcher(code).find());
        due("no type arguments", !Pattern.compile("<\\w+>").matcher(code).find());
        library(code);
        lengths(source);
    }

    /** Nothing of the library but what stands in rule 4. */
    private void library(String code) {
        Matcher m = Pattern.compile("\\b(Math|System|Integer|Long|Arrays|List|ArrayList)\\.(\\w+)").matcher(code);
        while (m.find()) {
            String use = m.group(1) + "." + m.group(2);
            due(use + " is allowed", use.equals("Math.min") || use.equals("Math.max")
                    || use.equals("Math.abs") || use.equals("System.arraycopy"));
        }
        Matcher made = Pattern.compile("\\bnew (\\w+)").matcher(code);
        while (made.find()) {
            due("new " + made.group(1), made.group(1).matches("Hall|Letters|Lamp|Squad|int"));
        }
    }

    private void lengths(String source) {
        int start = 0;
        int number = 0;
        String head = "";
        for (String line : source.split("\n")) {
            number++;
            due("line " + number + " is at most 100 long", line.length() <= 100);
            if (line.matches(" {4}( {4})?[a-z].*\\) \\{")) {
                start = number;
                head = line.trim();
            } else if (line.matches(" {4}( {4})?\\}")) {
                due(head + " has at most sixty lines", number - start <= 60);
            }
        }
    }
}
