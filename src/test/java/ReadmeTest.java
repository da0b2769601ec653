import java.lang.reflect.Field;
import java.lang.reflect.Method;
import java.lang.reflect.Modifier;
import java.net.URL;
import java.net.URLClassLoader;
import java.nio.file.Files;
import java.nio.file.Path;
import java.util.ArrayList;
import java.util.List;
import java.util.TreeSet;
import java.util.regex.Matcher;
import java.util.regex.Pattern;
import java.util.stream.Stream;
import javax.tools.JavaCompiler;
import javax.tools.ToolProvider;

/**
 * What README.md says of the use of the class holds: the parts of its example, one behind the other, are made a
 * program, and each call in it answers what stands behind it. And the page leaves out no call, constant or test.
 */
public final class ReadmeTest {
    private static final Pattern PART = Pattern.compile("(?s)```java\n(.*?)```");
    private static final Pattern OBJECT = Pattern.compile("StemDots \\w+ = new StemDots\\(\\);");
    // A call, and behind it its answer: a number, a constant, or two constants added; then nothing, or why, or what else.
    private static final Pattern CALL =
        Pattern.compile("(\\w[\\w.]*\\(.*\\)); +// (-?\\d+|[A-Z]+(?: \\+ [A-Z]+)*)(?:[:;,] .*)?");
    private static final Pattern ROW = Pattern.compile("(?m)^\\| `(?:new )?(\\w+)\\(([^)]*)\\)` \\|");
    private static final Pattern TEST = Pattern.compile("`(\\w+Test)\\.java`");
    private static final int FEWEST_CALLS = 60, MOST_CALLS = 512;

    private final Check check = new Check();
    private final StringBuilder functions = new StringBuilder();
    private final StringBuilder steps = new StringBuilder();
    private final List<String> calls = new ArrayList<>();
    private final List<Long> due = new ArrayList<>();

    public static void main(String[] args) throws Exception {
        ReadmeTest t = new ReadmeTest();
        String page = Files.readString(Path.of(args.length > 0 ? args[0] : "README.md"));
        t.readParts(page);
        t.callsAreShown();
        t.answersAreDue();
        t.callsAreListed(page);
        t.constantsAreTold(page);
        t.testsAreNamed(page);
        t.check.end("ReadmeTest");
    }

    private void readParts(String page) throws Exception {
        Matcher part = PART.matcher(page);
        while (part.find()) {
            if (part.group(1).startsWith("static ")) {
                functions.append(part.group(1));
            } else {
                for (String line : part.group(1).split("\n")) {
                    readLine(line);
                }
            }
        }
        check.holds("the example has many calls", calls.size() >= FEWEST_CALLS);
    }

    private void readLine(String line) throws Exception {
        Matcher call = CALL.matcher(line);
        if (call.matches()) {
            steps.append("a[").append(calls.size()).append("] = ").append(call.group(1)).append(";\n");
            calls.add(call.group(1));
            due.add(valueOf(call.group(2)));
        } else {
            check.holds("a new object, or a call and its answer: '" + line + "'", OBJECT.matcher(line).matches());
            steps.append(line).append("\n");
        }
    }

    private static long valueOf(String answer) throws Exception {
        if (!Character.isUpperCase(answer.charAt(0))) {
            return Long.parseLong(answer);
        }
        long sum = 0;
        for (String name : answer.split(" \\+ ")) {
            sum += StemDots.class.getField(name).getInt(null);
        }
        return sum;
    }

    private static TreeSet<String> face() {
        TreeSet<String> names = new TreeSet<>();
        for (Method m : StemDots.class.getDeclaredMethods()) {
            if (Modifier.isPublic(m.getModifiers())) {
                names.add(m.getName());
            }
        }
        return names;
    }

    private void callsAreShown() {
        for (String name : face()) {
            boolean shown = functions.indexOf("." + name + "(") >= 0;
            for (String call : calls) {
                shown |= call.contains("." + name + "(");
            }
            check.holds(name + " is in the example", shown);
        }
    }

    private void answersAreDue() throws Exception {
        Path in = Files.createTempDirectory("readme");
        try {
            long[] answers = answers(in);
            check.due("answers", answers.length, calls.size());
            for (int n = 0; n < answers.length; n++) {
                check.due("README.md, call " + n + ": " + calls.get(n), answers[n], due.get(n));
            }
        } finally {
            try (Stream<Path> files = Files.list(in)) {
                for (Path file : files.toList()) {
                    Files.delete(file);
                }
            }
            Files.delete(in);
        }
    }

    private long[] answers(Path in) throws Exception {
        Path source = in.resolve("Example.java");
        Files.writeString(source, "public final class Example {\n" + functions + "public static long[] answers() {\n"
            + "long[] a = new long[" + calls.size() + "];\n" + steps + "return a;\n}\n}\n");
        JavaCompiler compiler = ToolProvider.getSystemJavaCompiler();
        if (compiler == null || compiler.run(null, null, null, "-cp", System.getProperty("java.class.path"),
            "-d", in.toString(), source.toString()) != 0) {
            check.holds("the example compiles", false);
            return new long[0];
        }
        try (URLClassLoader loader = new URLClassLoader(new URL[] {in.toUri().toURL()})) {
            return (long[]) loader.loadClass("Example").getMethod("answers").invoke(null);
        }
    }

    private void callsAreListed(String page) {
        TreeSet<String> listed = new TreeSet<>();
        Matcher row = ROW.matcher(page);
        while (row.find()) {
            int takes = row.group(2).isEmpty() ? 0 : row.group(2).split(",").length;
            listed.add(row.group(1) + " " + takes);
        }
        TreeSet<String> are = new TreeSet<>(List.of("StemDots 0"));
        for (Method m : StemDots.class.getDeclaredMethods()) {
            if (Modifier.isPublic(m.getModifiers())) {
                are.add(m.getName() + " " + m.getParameterCount());
            }
        }
        check.holds("the calls listed are " + are + ", not " + listed, listed.equals(are));
    }

    private void constantsAreTold(String page) throws Exception {
        for (Field f : StemDots.class.getDeclaredFields()) {
            if (Modifier.isPublic(f.getModifiers())) {
                String told = "`" + f.getName() + "` " + f.getInt(null);
                check.holds(told + " is told", Pattern.compile(Pattern.quote(told) + "\\b").matcher(page).find());
            }
        }
        check.holds("so is how many calls an object answers", page.contains(" " + MOST_CALLS + " calls"));
    }

    private void testsAreNamed(String page) throws Exception {
        TreeSet<String> named = new TreeSet<>();
        Matcher test = TEST.matcher(page);
        while (test.find()) {
            named.add(test.group(1));
        }
        TreeSet<String> are = new TreeSet<>();
        try (Stream<Path> files = Files.list(Path.of("src/test/java"))) {
            for (Path file : files.toList()) {
                String name = file.getFileName().toString();
                if (name.endsWith("Test.java")) {
                    are.add(name.substring(0, name.length() - ".java".length()));
                }
            }
        }
        check.holds("the tests named are " + are + ", not " + named, named.equals(are));
        check.holds(".ci/run is there", Files.isExecutable(Path.of(".ci/run")) && page.contains(".ci/run"));
    }
}
