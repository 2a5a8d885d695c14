import java.io.IOException;
import java.lang.reflect.Method;
import java.lang.reflect.Modifier;
import java.nio.file.Files;
import java.nio.file.Path;
import java.util.ArrayList;
import java.util.List;
import java.util.Set;
import java.util.TreeSet;
import java.util.regex.Matcher;
import java.util.regex.Pattern;
import java.util.stream.Stream;

/**
 * What README.md shows holds: each call answers what stands behind it, each call of the face is shown, the commands
 * work as they stand there, and the tests that it names are those there are.
 */
public final class ReadmeTest {
    private static final String NEW_OBJECT = "GongCircle x = new GongCircle();";
    private static final Pattern SHOWN =
            Pattern.compile("(?:int (?<named>\\w+) = )?(?<call>x\\.(?<method>\\w+)\\(.*\\)); +// (?<answer>[^:]+)(?:: .+)?");

    private static final String USE_HEAD = """
            public final class Use {
                private interface Call {
                    Object answer();
                }

                private static int wrong = 0;

                private static void due(String call, String want, Call asked) {
                    String got;
                    try {
                        got = String.valueOf(asked.answer());
                    } catch (RuntimeException e) {
                        got = "throws " + e.getClass().getSimpleName();
                    }
                    if (!want.equals(got)) {
                        wrong++;
                        System.out.println(call + " answered " + got + ", shown is " + want);
                    }
                }

                public static void main(String[] args) {
            """;
    private static final String USE_END = """
                    System.out.println("all was asked");
                    System.exit(wrong == 0 ? 0 : 1);
                }
            }
            """;

    public static void main(String[] args) throws IOException {
        List<String> lines = Files.readAllLines(Path.of("README.md"));
        List<String> shown = linesIn(lines, "java");
        Due.is("one object, made first", 0, () -> shown.indexOf(NEW_OBJECT));
        shownCallsAreAll(shown);
        commands(lines, checking(shown));
        testsAreNamed(String.join("\n", lines));
        aWrongAnswerIsFound(shown);
        Due.end();
    }

    /** The blocks of a kind, one behind another, without empty lines. */
    private static List<String> linesIn(List<String> readme, String kind) {
        List<String> found = new ArrayList<>();
        for (String block : blocks(readme, kind)) {
            block.lines().filter(line -> !line.isBlank()).forEach(found::add);
        }
        return found;
    }

    private static List<String> blocks(List<String> readme, String kind) {
        List<String> blocks = new ArrayList<>();
        StringBuilder block = null;
        for (String line : readme) {
            if (block == null && line.equals("```" + kind)) {
                block = new StringBuilder();
            } else if (block != null && line.equals("```")) {
                blocks.add(block.toString());
                block = null;
            } else if (block != null) {
                block.append(line).append('\n');
            }
        }
        return blocks;
    }

    private static void shownCallsAreAll(List<String> shown) {
        Set<String> face = new TreeSet<>();
        for (Method method : GongCircle.class.getDeclaredMethods()) {
            if (Modifier.isPublic(method.getModifiers())) {
                face.add(method.getName());
            }
        }
        Set<String> called = new TreeSet<>();
        for (String line : shown.subList(1, shown.size())) {
            Matcher parts = SHOWN.matcher(line);
            Due.is("a call with its answer: " + line, true, parts::matches);
            if (parts.matches()) {
                called.add(parts.group("method"));
            }
        }
        Due.is("the calls that are shown", face.toString(), called::toString);
        Due.is("no more than 512 calls", true, () -> shown.size() <= 512);
    }

    /** The program Use with all that is shown in it, asking each call for the answer that is shown. */
    private static String checking(List<String> shown) {
        StringBuilder use = new StringBuilder(USE_HEAD);
        for (String line : shown) {
            Matcher parts = SHOWN.matcher(line);
            if (!parts.matches()) {
                use.append(line).append('\n');
                continue;
            }
            String asked = parts.group("call");
            if (parts.group("named") != null) {
                use.append("int ").append(parts.group("named")).append(" = ").append(asked).append(";\n");
                asked = parts.group("named");
            }
            use.append("due(\"").append(parts.group("call").replace("\"", "\\\"")).append("\", \"")
                    .append(parts.group("answer").strip()).append("\", () -> ").append(asked).append(");\n");
        }
        return use.append(USE_END).toString();
    }

    private static void commands(List<String> readme, String use) {
        List<String> told = blocks(readme, "sh");
        Due.is("commands for the use, for all tests, for one test", 3, told::size);
        if (told.size() != 3) {
            return;
        }
        Copy copy = new Copy("TunesTest");
        copy.put("Use.java", use);
        passes("the use", copy.run(told.get(0)), "all was asked");
        Due.is("the way to run all tests", ".ci/run\n", () -> told.get(1));
        Copy.Ended all = copy.run(told.get(1));
        passes("all tests", all, "== TunesTest");
        passes("all tests", all, "== ../shared/tests/");
        passes("one test", copy.run(told.get(2)), " asked, 0 not as due");
        copy.remove();
    }

    private static void passes(String what, Copy.Ended ended, String printed) {
        Due.is(what + " ends with 0", 0, ended::code);
        Due.is(what + " prints \"" + printed + "\"", true, () -> ended.printed().contains(printed));
        if (ended.code() != 0) {
            System.out.println(ended.printed());
        }
    }

    private static void testsAreNamed(String readme) throws IOException {
        Set<String> there = new TreeSet<>();
        try (Stream<Path> files = Files.list(Path.of("src/test/java"))) {
            files.forEach(file -> there.add(file.getFileName().toString().replace(".java", "")));
        }
        Set<String> named = new TreeSet<>();
        Matcher names = Pattern.compile("`(\\w+Test|(?!Use|GongCircle)\\w+\\.java)`").matcher(readme);
        while (names.find()) {
            named.add(names.group(1).replace(".java", ""));
        }
        Due.is("the tests that are named", there.toString(), named::toString);
    }

    // So that a page whose answers are never compared can't pass.
    private static void aWrongAnswerIsFound(List<String> shown) {
        Copy copy = new Copy();
        List<String> wrong = new ArrayList<>(shown);
        wrong.add("x.density(0, 0); // 2");
        copy.put("Use.java", checking(wrong));
        Copy.Ended ended = copy.run("javac -d out src/main/java/GongCircle.java Use.java; java -cp out Use");
        Due.is("a wrong answer on the page", 1, ended::code);
        Due.is("and what is told of it", true,
                () -> ended.printed().contains("x.density(0, 0) answered 1, shown is 2"));
        copy.remove();
    }
}
