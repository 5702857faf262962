import java.io.File;
import java.lang.reflect.InvocationTargetException;
import java.lang.reflect.Method;
import java.nio.file.Path;
import java.util.ArrayList;
import java.util.Arrays;
import java.util.LinkedHashMap;
import java.util.List;
import java.util.Map;
import java.util.TreeSet;
import java.util.regex.Matcher;
import java.util.regex.Pattern;

/** What README.md shows is so: its answers, its letters, its calls and refusals, its tests. */
public final class ReadmeTest extends Checks {
    private static final String PAGE = read(Path.of("README.md"));
    private static final String[] GAMES = {"b0;", "p0s573;p1k464;p0b385;b0;", "p0s573;p1k464;p0b385;b1;",
        "p0s573;p1k464;p0b385;c00;", "p0s573;p1k464;p0b385;b1;f05;o00;"};
    private static final int[] NUMBERS = {-1, 0, 1, 2, 3, 13, 25, 256};

    public static void main(String[] args) {
        ReadmeTest test = new ReadmeTest();
        test.answers();
        test.letters();
        test.calls();
        test.names();
        test.end();
    }

    /** The lines of the example as they stand, the letters of its hall ahead of them. */
    private void answers() {
        String example = between("```java\n", "```");
        NineteenSecondsLeft x = new NineteenSecondsLeft();
        String hall = first("String hall = \"(.*)\";", example);
        for (int i = 0; i < hall.length(); i++) {
            x.letter(hall.charAt(i));
        }
        Matcher line = Pattern.compile("(?m)^x\\.(\\w+)\\((.*)\\); *// (-?\\d+): .*$").matcher(example);
        int many = 0;
        while (line.find()) {
            many++;
            int[] arguments = Arrays.stream(line.group(2).split(", ")).filter(s -> !s.isEmpty())
                    .mapToInt(Integer::parseInt).toArray();
            due(line.group(), answer(x, line.group(1), arguments), Integer.parseInt(line.group(3)));
        }
        long calls = Pattern.compile("(?m)^x\\.").matcher(example).results().count();
        due("each line of the example is looked at", many, calls);
        holds("an example stands there", many > 9);
    }

    private void letters() {
        Matcher row = Pattern.compile("(?m)^\\| `([^`()]+;)` \\|").matcher(PAGE);
        StringBuilder firsts = new StringBuilder();
        while (row.find()) {
            due(row.group(1), tell(new NineteenSecondsLeft(), row.group(1)), 1);
            firsts.append(row.group(1).charAt(0));
        }
        holds("each STATEMENT once: " + firsts, firsts.toString().equals("pclbforwd"));
    }

    private void calls() {
        Map<String, String> told = table();
        Map<String, String> face = face();
        holds("the calls of the document in its order",
                new ArrayList<>(told.keySet()).equals(new ArrayList<>(face.keySet())));
        for (String call : told.keySet()) {
            String name = call.substring(0, call.indexOf('('));
            int many = call.endsWith("()") ? 0 : call.split(",").length;
            String seen = refusals(name, many);
            holds(call + " is refused by " + seen, told.get(call).equals(seen));
        }
    }

    private static Map<String, String> table() {
        Map<String, String> answer = new LinkedHashMap<>();
        Matcher row = Pattern.compile("(?m)^\\| `(\\w+\\([\\w, ]*\\))` \\|[^|]+\\|([^|]*)\\|$").matcher(PAGE);
        while (row.find()) {
            answer.put(row.group(1), row.group(2).trim());
        }
        return answer;
    }

    /** The calls as the document tells them, without types. */
    private static Map<String, String> face() {
        Map<String, String> answer = new LinkedHashMap<>();
        Matcher line = Pattern.compile("public int (\\w+\\(.*\\));").matcher(read(DOCUMENT));
        while (line.find()) {
            answer.put(line.group(1).replace("int ", ""), "");
        }
        return answer;
    }

    /** By which numbers a call was refused in some games, by some arguments. */
    private static String refusals(String name, int many) {
        TreeSet<Integer> seen = new TreeSet<>();
        for (String text : GAMES) {
            for (int[] arguments : combined(many)) {
                NineteenSecondsLeft x = game(text);
                answer(x, name, arguments);
                for (int number = 1; number <= 6; number++) {
                    if (x.count(10 + number) != 0) {
                        seen.add(number);
                    }
                }
            }
        }
        StringBuilder answer = new StringBuilder();
        for (int number : seen) {
            answer.append(answer.length() == 0 ? "-" : " -").append(number);
        }
        return answer.toString();
    }

    private static List<int[]> combined(int many) {
        List<int[]> answer = new ArrayList<>();
        answer.add(new int[0]);
        for (int place = 0; place < many; place++) {
            List<int[]> longer = new ArrayList<>();
            for (int[] one : answer) {
                for (int number : NUMBERS) {
                    int[] more = Arrays.copyOf(one, one.length + 1);
                    more[one.length] = number;
                    longer.add(more);
                }
            }
            answer = longer;
        }
        return answer;
    }

    private void names() {
        TreeSet<String> told = new TreeSet<>();
        Matcher name = Pattern.compile("`(\\w+Test)`").matcher(PAGE);
        while (name.find()) {
            told.add(name.group(1));
        }
        TreeSet<String> there = new TreeSet<>();
        for (String file : new File("src/test/java").list()) {
            if (file.endsWith("Test.java")) {
                there.add(file.replace(".java", ""));
            }
        }
        holds("the tests that are there, told: " + told + ", there: " + there, told.equals(there));
    }

    private static String between(String from, String to) {
        int start = PAGE.indexOf(from) + from.length();
        return PAGE.substring(start, PAGE.indexOf(to, start));
    }

    private static String first(String pattern, String text) {
        Matcher m = Pattern.compile(pattern).matcher(text);
        return m.find() ? m.group(1) : "";
    }

    private static int answer(NineteenSecondsLeft x, String name, int[] arguments) {
        Class<?>[] types = new Class<?>[arguments.length];
        Arrays.fill(types, int.class);
        try {
            Method call = NineteenSecondsLeft.class.getMethod(name, types);
            return (Integer) call.invoke(x, Arrays.stream(arguments).boxed().toArray());
        } catch (NoSuchMethodException | IllegalAccessException | InvocationTargetException e) {
            throw new IllegalStateException(name, e);
        }
    }
}
