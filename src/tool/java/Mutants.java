import java.io.ByteArrayOutputStream;
import java.io.File;
import java.io.IOException;
import java.io.OutputStream;
import java.io.PrintStream;
import java.net.MalformedURLException;
import java.net.URI;
import java.net.URL;
import java.net.URLClassLoader;
import java.nio.file.Files;
import java.nio.file.Path;
import java.util.ArrayList;
import java.util.HashMap;
import java.util.List;
import java.util.Map;
import java.util.concurrent.ExecutionException;
import java.util.concurrent.ExecutorService;
import java.util.concurrent.Executors;
import java.util.concurrent.Future;
import java.util.regex.Matcher;
import java.util.regex.Pattern;
import javax.tools.FileObject;
import javax.tools.ForwardingJavaFileManager;
import javax.tools.JavaCompiler;
import javax.tools.JavaFileManager;
import javax.tools.JavaFileObject;
import javax.tools.SimpleJavaFileObject;
import javax.tools.StandardJavaFileManager;
import javax.tools.ToolProvider;

/**
 * Breaks the program in one place after the other, and tells which breaks no boundary test sees. What is left over
 * is to be looked at: either it breaks nothing that the document promises, or a test is missing.
 */
public final class Mutants {
    private static final Path SOURCE = Path.of("src/main/java/BentPictures.java");
    private static final String[] TESTS = {"BoundarySpaceTest", "BoundaryPaintingTest", "BoundaryLightTest",
        "BoundaryPartsTest", "BoundaryRefusalsTest"};
    private static final long PATIENCE_MILLIS = 20_000;

    /** What is found and what stands there instead; $1 .. are its groups. */
    private static final String[][] CHANGES = {
        {"(?<![<>=!-])<(?![<=])(?= )", "<="}, {"(?<![<>=!-])>(?![>=])(?= )", ">="}, {"<=(?= )", "<"}, {"(?<!>)>=(?= )", ">"},
        {"==", "!="}, {"!=", "=="}, {"&&", "||"}, {"\\|\\|", "&&"}, {"(?<= )\\+(?= )", "-"}, {"(?<= )-(?= )", "+"},
        {"(?<= )\\*(?= )", "+"}, {"(?<= )/(?= )", "*"}, {"(?<= )%(?= )", "/"}, {"\\b(\\d+)\\b", "($1 + 1)"},
        {"\\b(\\d+)\\b", "($1 - 1)"}, {"\\|=", "^="}, {"\\+\\+", "--"}, {"\\+=", "-="}, {"-=", "+="},
        {"return true;", "return false;"}, {"return false;", "return true;"}, {"if \\((.*)\\) \\{", "if (!($1)) {"},
        {"return UNKNOWN;", "return OUTSIDE;"}, {"return OUTSIDE;", "return UNKNOWN;"}, {"return STATE;", "return UNKNOWN;"},
        {"return FULL;", "return OUTSIDE;"}, {"return NONE;", "return 0;"}, {"return SPENT;", "return NONE;"},
        {"^( +)([a-z][\\w.\\[\\] +*%/]*(\\(.*\\)|(=|\\+=|-=|\\|=|\\^=) .*|\\+\\+|--);)$", "$1// $2"},
        {"(?<=[(!&|] ?)!(?=[a-zA-Z(])", ""}, {"\\bMath\\.max\\b", "Math.min"}, {"0L", "1L"}, {"1L", "0L"},
    };

    private final Path classes;
    private final List<String> lines;

    private record Mutant(int line, String text) {
    }

    private Mutants(Path classes) throws IOException {
        this.classes = classes;
        lines = Files.readAllLines(SOURCE);
    }

    /** Where the compiled tests are; from which line on and up to which, if not all. */
    public static void main(String[] args) throws IOException, InterruptedException, ExecutionException {
        Mutants all = new Mutants(Path.of(args[0]));
        int from = args.length > 1 ? Integer.parseInt(args[1]) : 1;
        int to = args.length > 2 ? Integer.parseInt(args[2]) : all.lines.size();
        PrintStream out = System.out;
        System.setOut(new PrintStream(OutputStream.nullOutputStream()));
        List<Mutant> mutants = all.make(from, to);
        ExecutorService pool = Executors.newFixedThreadPool(Runtime.getRuntime().availableProcessors());
        List<Future<String>> fates = new ArrayList<>();
        for (Mutant mutant : mutants) {
            fates.add(pool.submit(() -> all.fateOf(mutant)));
        }
        Map<String, Integer> counts = new HashMap<>();
        for (int k = 0; k < mutants.size(); k++) {
            String fate = fates.get(k).get();
            counts.merge(fate, 1, Integer::sum);
            if (fate.equals("lives")) {
                Mutant mutant = mutants.get(k);
                out.println(mutant.line + ": " + all.lines.get(mutant.line - 1).trim() + "   =>   " + mutant.text.trim());
            }
        }
        out.println(counts);
        System.exit(0);
    }

    private List<Mutant> make(int from, int to) {
        List<Mutant> mutants = new ArrayList<>();
        for (int n = from; n <= to; n++) {
            String line = lines.get(n - 1);
            String bare = line.trim();
            if (bare.startsWith("//") || bare.startsWith("*") || bare.startsWith("/*") || bare.startsWith("import")) {
                continue;
            }
            for (String[] change : CHANGES) {
                Matcher found = Pattern.compile(change[0]).matcher(line);
                while (found.find()) {
                    StringBuilder text = new StringBuilder();
                    Matcher again = Pattern.compile(change[0]).matcher(line);
                    again.find(found.start());
                    text.append(line, 0, again.start());
                    String instead = change[1];
                    for (int g = 1; g <= again.groupCount(); g++) {
                        instead = instead.replace("$" + g, again.group(g) == null ? "" : again.group(g));
                    }
                    text.append(instead).append(line.substring(again.end()));
                    mutants.add(new Mutant(n, text.toString()));
                }
            }
        }
        return mutants;
    }

    private String fateOf(Mutant mutant) throws InterruptedException {
        List<String> changed = new ArrayList<>(lines);
        changed.set(mutant.line - 1, mutant.text);
        Map<String, byte[]> compiled = compile(String.join("\n", changed));
        if (compiled == null) {
            return "does not compile";
        }
        String[] fate = {"does not end"};
        Thread tests = new Thread(() -> fate[0] = sees(compiled) ? "is seen" : "lives");
        tests.setDaemon(true);
        tests.start();
        tests.join(PATIENCE_MILLIS);
        return fate[0];
    }

    private boolean sees(Map<String, byte[]> compiled) {
        try (Loader loader = new Loader(classes, compiled)) {
            for (String test : TESTS) {
                var all = loader.loadClass(test).getDeclaredMethod("all");
                all.setAccessible(true);
                all.invoke(null);
                var broken = loader.loadClass("Sentence").getDeclaredMethod("broken");
                broken.setAccessible(true);
                if (!((List<?>) broken.invoke(null)).isEmpty()) {
                    return true;
                }
            }
            return false;
        } catch (ReflectiveOperationException | IOException | LinkageError e) {
            return true;
        }
    }

    private static Map<String, byte[]> compile(String source) {
        JavaCompiler compiler = ToolProvider.getSystemJavaCompiler();
        Map<String, ByteArrayOutputStream> outputs = new HashMap<>();
        StandardJavaFileManager standard = compiler.getStandardFileManager(d -> { }, null, null);
        JavaFileManager files = new ForwardingJavaFileManager<>(standard) {
            @Override
            public JavaFileObject getJavaFileForOutput(Location place, String name, JavaFileObject.Kind kind, FileObject by) {
                return new SimpleJavaFileObject(URI.create("mem:///" + name.replace('.', '/') + ".class"), kind) {
                    @Override
                    public OutputStream openOutputStream() {
                        ByteArrayOutputStream bytes = new ByteArrayOutputStream();
                        outputs.put(name, bytes);
                        return bytes;
                    }
                };
            }
        };
        JavaFileObject unit = new SimpleJavaFileObject(URI.create("mem:///BentPictures.java"), JavaFileObject.Kind.SOURCE) {
            @Override
            public CharSequence getCharContent(boolean ignore) {
                return source;
            }
        };
        boolean fine = compiler.getTask(null, files, d -> { }, List.of("--release", "17"), null, List.of(unit)).call();
        if (!fine) {
            return null;
        }
        Map<String, byte[]> bytes = new HashMap<>();
        outputs.forEach((name, output) -> bytes.put(name, output.toByteArray()));
        return bytes;
    }

    /** The broken program with tests of its own, so that each mutant counts for itself. */
    private static final class Loader extends URLClassLoader {
        private final Map<String, byte[]> compiled;

        Loader(Path classes, Map<String, byte[]> compiled) throws MalformedURLException {
            super(new URL[] {new File(classes.toString()).toURI().toURL()}, ClassLoader.getPlatformClassLoader());
            this.compiled = compiled;
        }

        @Override
        protected Class<?> loadClass(String name, boolean resolve) throws ClassNotFoundException {
            synchronized (getClassLoadingLock(name)) {
                byte[] bytes = compiled.get(name);
                if (bytes != null && findLoadedClass(name) == null) {
                    return defineClass(name, bytes, 0, bytes.length);
                }
                return super.loadClass(name, resolve);
            }
        }
    }
}
