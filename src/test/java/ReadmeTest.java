import java.io.File;
import java.io.IOException;
import java.lang.reflect.InvocationTargetException;
import java.lang.reflect.Method;
import java.net.URL;
import java.net.URLClassLoader;
import java.nio.file.Files;
import java.nio.file.Path;
import java.nio.file.Paths;
import java.util.ArrayList;
import java.util.LinkedHashMap;
import java.util.List;
import java.util.Map;
import java.util.regex.Matcher;
import java.util.regex.Pattern;
import java.util.stream.Collectors;
import java.util.stream.Stream;
import javax.tools.ToolProvider;

/**
 * That what README.md gives as examples answers what it tells there: its pieces of Java become one program, which is
 * run on the class and on the model. Each group of calls of the document must have an example with each of its calls.
 */
public final class ReadmeTest {
    private static final String README = "README.md";
    private static final String[] GROUPS = {
        "The tape: type cut spoil tapeAt",
        "Problems: problem fault drop count find letter shown range rule",
        "Plans, facts, pins: fact change value put pin weigh broken aim score feasible",
        "What rules leave: reach isLeft hopeless",
        "The best: solve best bests bestAt feasibles feasibleAt has choices mend",
        "Several aims, near plans: front frontAt frontPlan near",
        "None, and why: clash fewest relax without whyNot because",
        "Futures: future told unfold robust expected regret",
        "Searches: search searched",
        "Proofs: check prove",
        "Above, below: above below",
        "The store: save load rows size byteAt crash take bring"
    };
    private static final Pattern ANSWERED = Pattern.compile("(.*;) +// (-?\\w+)(: .+)?");
    private static final Pattern DECLARED = Pattern.compile("(?:int|long|boolean) (\\w+) = .*;");
    private static final Pattern CALLED = Pattern.compile("house\\.(\\w+)\\(");

    private final StringBuilder members = new StringBuilder();
    private final StringBuilder examples = new StringBuilder();
    private final Map<String, List<String>> calls = new LinkedHashMap<>();
    private int exampleCount;
    private int wrong;

    public static void main(String[] args) throws Exception {
        ReadmeTest test = new ReadmeTest();
        test.read(Files.readAllLines(Paths.get(README)));
        test.lookAtGroups();
        for (String house : new String[] {"PlanningHouse", "Model"}) {
            test.run(house);
        }
        System.out.println(test.exampleCount + " examples of " + README + ", " + test.wrong + " faults");
        System.exit(test.wrong == 0 ? 0 : 1);
    }

    private void fail(String what) {
        wrong++;
        System.out.println(README + ": " + what);
    }

    // ---- from the text to a program

    private void read(List<String> lines) {
        String heading = "";
        int at = 0;
        while (at < lines.size()) {
            String line = lines.get(at);
            at++;
            if (line.startsWith("#")) {
                heading = line.replaceFirst("#+ ", "");
            } else if (line.equals("```java")) {
                int end = at;
                while (end < lines.size() && !lines.get(end).equals("```")) {
                    end++;
                }
                addPiece(heading, lines.subList(at, end), at + 1);
                at = end + 1;
            }
        }
    }

    /** A piece that begins with static is for all examples; any other one is an example. */
    private void addPiece(String heading, List<String> lines, int firstLine) {
        if (lines.get(0).startsWith("static ")) {
            lines.forEach(line -> members.append(line).append('\n'));
            return;
        }
        exampleCount++;
        examples.append("static void example").append(exampleCount).append("() {\n");
        for (int i = 0; i < lines.size(); i++) {
            addLine(heading, lines.get(i), firstLine + i);
        }
        examples.append("}\n");
    }

    private void addLine(String heading, String line, int number) {
        Matcher answered = ANSWERED.matcher(line);
        if (!answered.matches()) {
            examples.append(line).append('\n');
            if (CALLED.matcher(line).find()) {
                fail("line " + number + " tells no answer: " + line);
            }
            return;
        }
        String statement = answered.group(1);
        Matcher called = CALLED.matcher(statement);
        while (called.find()) {
            calls.computeIfAbsent(heading, h -> new ArrayList<>()).add(called.group(1));
        }
        Matcher declared = DECLARED.matcher(statement);
        boolean isDeclared = declared.matches();
        String got = isDeclared ? declared.group(1) : statement.substring(0, statement.length() - 1);
        examples.append(isDeclared ? statement : "").append("due(").append(number).append(", \"")
            .append(statement.replace("\\", "\\\\").replace("\"", "\\\"")).append("\", ")
            .append(got).append(", ").append(answered.group(2)).append(");\n");
    }

    private String program(String name, String house) {
        StringBuilder s = new StringBuilder("public final class " + name + " {\n"
            + "static final int NONE = PlanningHouse.NONE;\n"
            + "static final long NO = PlanningHouse.NO;\n"
            + "static final int FULL = PlanningHouse.FULL;\n"
            + "static int wrong = 0;\n"
            + "static void due(int line, String call, long got, long want) {\n"
            + "if (got != want) { wrong++; System.out.println(\"" + README + ", line \" + line + \", " + house
            + ": \" + call + \" answered \" + got + \", not \" + want); } }\n"
            + "static void due(int line, String call, boolean got, boolean want) {\n"
            + "due(line, call, got ? 1L : 0L, want ? 1L : 0L); }\n");
        s.append(members).append(examples).append("public static int run() {\n");
        for (int i = 1; i <= exampleCount; i++) {
            s.append("example").append(i).append("();\n");
        }
        return s.append("return wrong;\n}\n}\n").toString().replace("PlanningHouse", house);
    }

    // ---- running it

    private void run(String house) throws Exception {
        Path dir = Files.createTempDirectory("readme");
        try {
            Path source = dir.resolve("Examples.java");
            Files.write(source, program("Examples", house).getBytes("UTF-8"));
            URL own = ReadmeTest.class.getProtectionDomain().getCodeSource().getLocation();
            String classes = new File(own.toURI()).getPath();
            int code = ToolProvider.getSystemJavaCompiler().run(null, null, null, "-proc:none", "-cp", classes,
                "-d", dir.toString(), source.toString());
            if (code != 0) {
                fail("its examples can't be compiled with " + house);
                return;
            }
            wrong += runClass(dir, new File(classes));
        } finally {
            deleteAll(dir);
        }
    }

    /** All classes come from one loader of their own, for the model's methods are seen in their package alone. */
    private int runClass(Path dir, File classes) throws Exception {
        URL[] places = {dir.toUri().toURL(), classes.toURI().toURL()};
        try (URLClassLoader loader = new URLClassLoader(places, ClassLoader.getPlatformClassLoader())) {
            Method run = loader.loadClass("Examples").getMethod("run");
            return (Integer) run.invoke(null);
        } catch (InvocationTargetException e) {
            System.out.println(README + ": an example threw " + e.getCause());
            return 1;
        }
    }

    private static void deleteAll(Path dir) throws IOException {
        List<Path> files;
        try (Stream<Path> walk = Files.walk(dir)) {
            files = walk.collect(Collectors.toList());
        }
        for (int i = files.size() - 1; i >= 0; i--) {
            Files.delete(files.get(i));
        }
    }

    // ---- what must be there

    private void lookAtGroups() {
        for (String group : GROUPS) {
            int colon = group.indexOf(": ");
            String heading = group.substring(0, colon);
            List<String> there = calls.getOrDefault(heading, new ArrayList<>());
            for (String call : group.substring(colon + 2).split(" ")) {
                if (!there.contains(call)) {
                    fail("no example of " + call + " under \"" + heading + "\"");
                }
            }
        }
        if (exampleCount < GROUPS.length) {
            fail("only " + exampleCount + " examples");
        }
    }
}
