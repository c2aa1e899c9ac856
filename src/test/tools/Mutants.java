import java.io.ByteArrayOutputStream;
import java.io.OutputStream;
import java.io.PrintStream;
import java.io.StringWriter;
import java.net.URI;
import java.nio.charset.StandardCharsets;
import java.nio.file.DirectoryStream;
import java.nio.file.Files;
import java.nio.file.Path;
import java.util.ArrayList;
import java.util.Arrays;
import java.util.HashMap;
import java.util.List;
import java.util.Map;
import java.util.concurrent.ExecutorService;
import java.util.concurrent.Executors;
import java.util.concurrent.TimeUnit;
import java.util.regex.Matcher;
import java.util.regex.Pattern;
import javax.tools.ForwardingJavaFileManager;
import javax.tools.JavaCompiler;
import javax.tools.JavaFileObject;
import javax.tools.SimpleJavaFileObject;
import javax.tools.StandardJavaFileManager;
import javax.tools.ToolProvider;

/**
 * Breaks the program at one place at a time and runs tests on what comes out; tells the places where no test fails.
 * Takes the directory of the compiled tests and the names of tests (see README.md). No part of .ci/run: it takes minutes.
 */
public final class Mutants {
    private static final Path PROGRAM = Path.of("src/main/java/FreshLines.java");
    private static final long PATIENCE = 20_000;
    private static final Pattern SIGNS = Pattern.compile("<<|>>>|>>|<=|>=|==|!=|&&|\\|\\||\\+\\+|--|\\+=|-=|&=|\\|=|\\^=|[<>+\\-*%&|^~!]"
        + "|0x[0-9A-F]+L?|\\b\\d[\\d_]*L?\\b|\\btrue\\b|\\bfalse\\b|\\bcontinue\\b|\\bbreak\\b");
    private static final Pattern CONDITION = Pattern.compile("^(\\s*(?:\\} else )?if \\()(.*)(\\) \\{)$");
    private static final Map<String, String> OTHERS = new HashMap<>();
    private static final PrintStream OUT = System.out;

    static {
        String[] pairs = {"<", "<= >=", "<=", "< >", ">", ">= <=", ">=", "> <", "==", "!= >= <=", "!=", "== < >", "&&", "||", "||", "&&", "+", "-", "-", "+",
            "++", "--", "--", "++", "*", "+", "%", "*", "&", "|", "|", "&", "^", "&", "~", "+", "!", " ", "+=", "-= =", "-=", "+=", "|=", "= &=", "&=", "=",
            "^=", "= |=", ">>>", ">> <<", ">>", "<<", "<<", ">>", "true", "false", "false", "true", "continue", "break", "break", "continue"};
        for (int i = 0; i < pairs.length; i += 2) {
            OTHERS.put(pairs[i], pairs[i + 1]);
        }
    }

    private final String[] lines;
    private final String[] tests;
    private final Map<String, byte[]> compiledTests = new HashMap<>();
    private final ExecutorService pool = Executors.newFixedThreadPool(Runtime.getRuntime().availableProcessors());
    private int made;
    private int alive;

    private Mutants(Path classes, String[] tests) throws Exception {
        lines = Files.readString(PROGRAM).split("\n", -1);
        this.tests = tests;
        try (DirectoryStream<Path> found = Files.newDirectoryStream(classes, "*.class")) {
            for (Path path : found) {
                String name = path.getFileName().toString().replace(".class", "");
                if (!name.equals("FreshLines") && !name.startsWith("FreshLines$")) {
                    compiledTests.put(name, Files.readAllBytes(path));
                }
            }
        }
    }

    public static void main(String[] args) throws Exception {
        Mutants mutants = new Mutants(Path.of(args[0]), Arrays.copyOfRange(args, 1, args.length));
        System.setOut(new PrintStream(OutputStream.nullOutputStream()));
        mutants.breakAll();
        mutants.pool.shutdown();
        mutants.pool.awaitTermination(1, TimeUnit.DAYS);
        OUT.println(mutants.made + " broken programs, " + mutants.alive + " that no test tells from the right one");
        System.exit(0);
    }

    private void breakAll() {
        for (int i = 0; i < lines.length; i++) {
            String code = lines[i].trim();
            boolean none = code.isEmpty() || code.startsWith("/") || code.startsWith("*") || code.startsWith("import") || code.contains("throw new");
            if (!none) {
                breakSigns(i);
                breakStatement(i, code);
            }
        }
    }

    private void breakSigns(int i) {
        Matcher sign = SIGNS.matcher(lines[i]);
        while (sign.find()) {
            String ahead = lines[i].substring(0, sign.start());
            boolean inText = ahead.chars().filter(c -> c == '"').count() % 2 == 1;
            for (String other : inText ? new String[0] : others(sign.group()).split(" ")) {
                tryWith(i, ahead + other + lines[i].substring(sign.end()));
            }
        }
    }

    private static String others(String sign) {
        if (!Character.isDigit(sign.charAt(0))) {
            return OTHERS.get(sign);
        }
        String end = sign.endsWith("L") ? "L" : "";
        long number = Long.decode(sign.replace("_", "").replace("L", ""));
        return (number + 1) + end + " " + (number - 1) + end;
    }

    private void breakStatement(int i, String code) {
        if (code.startsWith("return ")) {
            for (String other : new String[] {"0", "1", "NONE", "true", "false"}) {
                tryWith(i, "return " + other + ";");
            }
        } else if (code.endsWith(";") && !code.matches("(case|default|private|public|final|int|long|boolean|Memory|String|Outside)\\b.*")) {
            tryWith(i, "");
        }
        Matcher condition = CONDITION.matcher(lines[i]);
        if (condition.find()) {
            tryWith(i, condition.group(1) + "true | (" + condition.group(2) + ")" + condition.group(3));
            tryWith(i, condition.group(1) + "false & (" + condition.group(2) + ")" + condition.group(3));
        }
    }

    private void tryWith(int i, String line) {
        if (line.trim().equals(lines[i].trim())) {
            return;
        }
        String[] broken = lines.clone();
        broken[i] = line;
        String source = String.join("\n", broken);
        pool.execute(() -> tell(i + 1, line.trim(), source));
    }

    private void tell(int number, String line, String source) {
        Map<String, byte[]> classes = compile(source);
        if (classes == null) {
            return;
        }
        classes.putAll(compiledTests);
        boolean passes = passes(classes);
        synchronized (this) {
            made++;
            if (passes) {
                alive++;
                OUT.println(number + ": " + line);
            }
        }
    }

    @SuppressWarnings({"deprecation", "removal"})
    private boolean passes(Map<String, byte[]> classes) {
        boolean[] good = {false};
        Thread run = new Thread(() -> good[0] = runTests(new Loader(classes)));
        run.setDaemon(true);
        run.start();
        try {
            run.join(PATIENCE);
        } catch (InterruptedException e) {
            return false;
        }
        if (run.isAlive()) {
            run.stop();
            return false;
        }
        return good[0];
    }

    private boolean runTests(Loader loader) {
        try {
            for (String test : tests) {
                loader.loadClass(test).getMethod("main", String[].class).invoke(null, (Object) new String[0]);
            }
            return true;
        } catch (Throwable e) {
            return false;
        }
    }

    private static Map<String, byte[]> compile(String source) {
        JavaCompiler compiler = ToolProvider.getSystemJavaCompiler();
        Memory memory = new Memory(compiler.getStandardFileManager(null, null, StandardCharsets.US_ASCII));
        boolean good = compiler.getTask(new StringWriter(), memory, problem -> { }, List.of("-nowarn", "-proc:none"), null, List.of(new Source(source))).call();
        return good ? memory.classes() : null;
    }

    private static final class Source extends SimpleJavaFileObject {
        private final String source;

        Source(String source) {
            super(URI.create("string:///FreshLines.java"), Kind.SOURCE);
            this.source = source;
        }

        @Override
        public CharSequence getCharContent(boolean ignoreEncodingErrors) {
            return source;
        }
    }

    private static final class Compiled extends SimpleJavaFileObject {
        private final String name;
        private final ByteArrayOutputStream bytes = new ByteArrayOutputStream();

        Compiled(String name) {
            super(URI.create("mem:///" + name + ".class"), Kind.CLASS);
            this.name = name;
        }

        @Override
        public OutputStream openOutputStream() {
            return bytes;
        }
    }

    private static final class Memory extends ForwardingJavaFileManager<StandardJavaFileManager> {
        private final List<Compiled> all = new ArrayList<>();

        Memory(StandardJavaFileManager manager) {
            super(manager);
        }

        @Override
        public JavaFileObject getJavaFileForOutput(Location location, String name, JavaFileObject.Kind kind, javax.tools.FileObject sibling) {
            all.add(new Compiled(name));
            return all.get(all.size() - 1);
        }

        Map<String, byte[]> classes() {
            Map<String, byte[]> classes = new HashMap<>();
            for (Compiled one : all) {
                classes.put(one.name, one.bytes.toByteArray());
            }
            return classes;
        }
    }

    private static final class Loader extends ClassLoader {
        private final Map<String, byte[]> classes;

        Loader(Map<String, byte[]> classes) {
            super(ClassLoader.getPlatformClassLoader());
            this.classes = classes;
        }

        @Override
        protected Class<?> findClass(String name) throws ClassNotFoundException {
            byte[] bytes = classes.get(name);
            if (bytes == null) {
                throw new ClassNotFoundException(name);
            }
            return defineClass(name, bytes, 0, bytes.length);
        }
    }
}
