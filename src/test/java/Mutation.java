import java.io.ByteArrayOutputStream;
import java.io.OutputStream;
import java.io.PrintStream;
import java.net.URI;
import java.nio.file.Files;
import java.nio.file.Path;
import java.util.ArrayList;
import java.util.HashMap;
import java.util.LinkedHashMap;
import java.util.List;
import java.util.Map;
import java.util.concurrent.Callable;
import java.util.concurrent.ExecutorService;
import java.util.concurrent.Executors;
import java.util.concurrent.Future;
import java.util.concurrent.TimeUnit;
import java.util.concurrent.TimeoutException;
import java.util.regex.Matcher;
import java.util.regex.Pattern;
import javax.tools.FileObject;
import javax.tools.ForwardingJavaFileManager;
import javax.tools.JavaCompiler;
import javax.tools.JavaFileManager;
import javax.tools.JavaFileObject;
import javax.tools.SimpleJavaFileObject;
import javax.tools.ToolProvider;

/**
 * Changes the program in one small place at a time and asks which tests of the document's sentences
 * fail then. Prints the changes that no test notices, and the tests that notice no change. Not a part
 * of .ci/run; README.md tells how to start it. Its argument is the folder of the compiled tests.
 */
public final class Mutation {
    private static final PrintStream REPORT = System.out;
    private static final Path PROGRAM = Path.of("src/main/java/PoeSwitch.java");

    /** What is looked for in a line, and what may stand there instead. */
    private static final String[][] CHANGES = {
        {" < ", " <= ", " > "}, {" <= ", " < ", " >= "}, {" > ", " >= ", " < "}, {" >= ", " > ", " <= "},
        {" == ", " != "}, {" != ", " == "}, {" && ", " || "}, {" || ", " && "},
        {" + ", " - "}, {" - ", " + "}, {" += ", " -= ", " = "}, {" -= ", " += ", " = "}, {" |= ", " = "},
        {"++", "--"}, {"--", "++"}, {"!", ""}, {"\\btrue\\b", "false"}, {"\\bfalse\\b", "true"},
        {"return NO_SUCH_INDEX;", "return BAD_VALUE;"}, {"return BAD_VALUE;", "return BAD_STATE;"},
        {"return BAD_STATE;", "return BAD_VALUE;"}, {"return NO_BUDGET;", "return BAD_VALUE;"},
        {"return NONE;", "return 0;"}, {"\\? 1 : 0", "? 0 : 1"}, {"Math.max", "Math.min"}};

    /** A change of the program: where it is, and the whole text with it. */
    private record Mutant(String name, String text) {
    }

    private static final class Source extends SimpleJavaFileObject {
        private final String text;

        Source(String text) {
            super(URI.create("string:///PoeSwitch.java"), Kind.SOURCE);
            this.text = text;
        }

        @Override
        public CharSequence getCharContent(boolean ignoreErrors) {
            return text;
        }
    }

    private static final class Code extends SimpleJavaFileObject {
        private final ByteArrayOutputStream bytes = new ByteArrayOutputStream();

        Code(String name) {
            super(URI.create("mem:///" + name.replace('.', '/') + ".class"), Kind.CLASS);
        }

        @Override
        public OutputStream openOutputStream() {
            return bytes;
        }
    }

    private static final class Memory extends ForwardingJavaFileManager<JavaFileManager> {
        private final Map<String, Code> classes = new HashMap<>();

        Memory(JavaFileManager files) {
            super(files);
        }

        @Override
        public JavaFileObject getJavaFileForOutput(Location location, String name,
                JavaFileObject.Kind kind, FileObject sibling) {
            return classes.computeIfAbsent(name, Code::new);
        }
    }

    /** The tests as they were compiled, with another program. */
    private static final class Loader extends ClassLoader {
        private final Path tests;
        private final Map<String, Code> program;

        Loader(Path tests, Map<String, Code> program) {
            super(ClassLoader.getPlatformClassLoader());
            this.tests = tests;
            this.program = program;
        }

        @Override
        protected Class<?> findClass(String name) throws ClassNotFoundException {
            try {
                byte[] bytes = program.containsKey(name) ? program.get(name).bytes.toByteArray()
                        : Files.readAllBytes(tests.resolve(name + ".class"));
                return defineClass(name, bytes, 0, bytes.length);
            } catch (java.io.IOException missing) {
                throw new ClassNotFoundException(name, missing);
            }
        }
    }

    public static void main(String[] args) throws Exception {
        Path tests = Path.of(args[0]);
        System.setOut(new PrintStream(OutputStream.nullOutputStream()));
        Map<String, Integer> noticed = new LinkedHashMap<>();
        for (String title : SentencesTest.titles()) {
            noticed.put(title, 0);
        }
        List<Mutant> mutants = mutants(Files.readString(PROGRAM));
        ExecutorService workers = Executors.newCachedThreadPool(Mutation::daemon);
        int compiled = 0;
        int alive = 0;
        for (Mutant mutant : mutants) {
            Map<String, Code> program = compile(mutant.text());
            if (program == null) {
                continue;
            }
            compiled++;
            List<String> failing = ask(workers, new Loader(tests, program));
            for (String title : failing) {
                noticed.merge(title, 1, Integer::sum);
            }
            if (failing.isEmpty()) {
                alive++;
                REPORT.println("not noticed: " + mutant.name());
            }
        }
        for (Map.Entry<String, Integer> test : noticed.entrySet()) {
            if (test.getValue() == 0) {
                REPORT.println("notices nothing: " + test.getKey());
            }
        }
        REPORT.println(compiled + " changes, " + alive + " not noticed");
        // A change may have made a loop without an end, which would keep its thread.
        System.exit(0);
    }

    private static Thread daemon(Runnable task) {
        Thread thread = new Thread(task);
        thread.setDaemon(true);
        return thread;
    }

    private static List<Mutant> mutants(String text) {
        String[] lines = text.split("\n", -1);
        List<Mutant> mutants = new ArrayList<>();
        for (int i = 0; i < lines.length; i++) {
            String bare = lines[i].strip();
            if (bare.startsWith("//") || bare.startsWith("/*") || bare.startsWith("*")) {
                continue;
            }
            for (String[] change : CHANGES) {
                Matcher place = Pattern.compile(change[0].matches("\\W+") ? Pattern.quote(change[0])
                        : change[0]).matcher(lines[i]);
                while (place.find()) {
                    for (int other = 1; other < change.length; other++) {
                        mutants.add(mutant(lines, i, place.start(), place.end(), change[other]));
                    }
                }
            }
            Matcher number = Pattern.compile("\\b\\d+\\b").matcher(lines[i]);
            while (number.find()) {
                int value = Integer.parseInt(number.group());
                mutants.add(mutant(lines, i, number.start(), number.end(), "" + (value + 1)));
                mutants.add(mutant(lines, i, number.start(), number.end(), "(" + (value - 1) + ")"));
            }
            if (bare.endsWith(";")) {
                mutants.add(mutant(lines, i, 0, lines[i].length(), ""));
            }
        }
        return mutants;
    }

    private static Mutant mutant(String[] lines, int line, int from, int to, String instead) {
        String[] changed = lines.clone();
        changed[line] = lines[line].substring(0, from) + instead + lines[line].substring(to);
        String name = (line + 1) + ": " + lines[line].strip() + "  ->  " + changed[line].strip();
        return new Mutant(name, String.join("\n", changed));
    }

    private static Map<String, Code> compile(String text) {
        JavaCompiler compiler = ToolProvider.getSystemJavaCompiler();
        Memory memory = new Memory(compiler.getStandardFileManager(diagnostic -> { }, null, null));
        boolean good = compiler.getTask(null, memory, diagnostic -> { }, null, null,
                List.of(new Source(text))).call();
        return good ? memory.classes : null;
    }

    private static List<String> ask(ExecutorService workers, Loader loader) throws Exception {
        Callable<List<String>> task = () -> {
            var method = loader.loadClass("SentencesTest").getDeclaredMethod("failing");
            method.setAccessible(true);
            List<String> failing = new ArrayList<>();
            for (Object title : (List<?>) method.invoke(null)) {
                failing.add((String) title);
            }
            return failing;
        };
        Future<List<String>> answer = workers.submit(task);
        try {
            return answer.get(20, TimeUnit.SECONDS);
        } catch (TimeoutException endless) {
            return List.of("a test that does not end");
        } catch (java.util.concurrent.ExecutionException thrown) {
            return List.of("a test that is stopped by " + thrown.getCause());
        }
    }
}
