import java.io.IOException;
import java.io.StringWriter;
import java.net.URI;
import java.net.URL;
import java.net.URLClassLoader;
import java.nio.file.Files;
import java.nio.file.Path;
import java.util.ArrayList;
import java.util.List;
import java.util.Set;
import java.util.TreeSet;
import java.util.regex.Matcher;
import java.util.regex.Pattern;
import javax.tools.JavaCompiler;
import javax.tools.JavaFileObject;
import javax.tools.SimpleJavaFileObject;
import javax.tools.ToolProvider;

/**
 * The examples of a README: its java blocks, of which each line makes an object or shows a call with
 * its answer. Each call is compiled as it is written, so that what a reader copies is what was tried.
 */
final class ReadmeExamples {
    private static final Pattern BLOCK = Pattern.compile("^```java\\n(.*?)^```$", Pattern.MULTILINE | Pattern.DOTALL);
    private static final Pattern MAKING = Pattern.compile("GhostSigns signs = new GhostSigns\\(\\);");
    private static final Pattern CALL = Pattern.compile(
            "((?:int|long) (\\w+) = )?(signs\\.(\\w+)\\([^;/]*\\)); *// (-?\\d+|[A-Z]+)(: .+)?");
    private static final Pattern SHOWN = Pattern.compile("\\bsigns\\.\\w+\\(");
    private static final String NAME = "ReadmeExample";

    private final List<String> faults = new ArrayList<>();
    private final Set<String> called = new TreeSet<>();
    private final List<String> programs = new ArrayList<>();

    /** Tries all examples of a text. */
    ReadmeExamples(String text) throws Exception {
        Matcher block = BLOCK.matcher(text);
        while (block.find()) {
            programs.add(programOf(NAME + programs.size(), block.group(1)));
        }
        if (SHOWN.matcher(block.replaceAll("")).find()) {
            faults.add("a call is shown outside of the java blocks, where it is not tried");
        }
        if (faults.isEmpty()) {
            compileAndRun();
        }
    }

    /** What is wrong with the examples, a line each. */
    List<String> faults() {
        return faults;
    }

    /** The names of the calls that the examples show. */
    Set<String> called() {
        return called;
    }

    private String programOf(String name, String block) {
        StringBuilder program = new StringBuilder();
        program.append("public final class ").append(name).append(" {\n");
        program.append("public static void run(java.util.List<String> faults) {\n");
        for (String line : block.split("\n")) {
            program.append(statementOf(line.strip())).append('\n');
        }
        return program.append("}\n}\n").toString();
    }

    private String statementOf(String line) {
        Matcher call = CALL.matcher(line);
        if (line.isEmpty() || MAKING.matcher(line).matches()) {
            return line;
        }
        if (!call.matches()) {
            faults.add("neither a call with its answer nor a new object: " + line);
            return "";
        }
        called.add(call.group(4));
        String told = call.group(5);
        String due = Character.isLetter(told.charAt(0)) ? "GhostSigns." + told : told + "L";
        String kept = call.group(2) == null ? "" : call.group(1) + call.group(3) + "; ";
        String got = call.group(2) == null ? call.group(3) : call.group(2);
        String shown = "\"" + call.group(3).replace("\"", "\\\"") + "\"";
        return kept + "{ long got = " + got + "; if (got != " + due + ") { faults.add(" + shown
                + " + \" answered \" + got + \", README.md says " + told + "\"); } }";
    }

    private void compileAndRun() throws Exception {
        Path out = Files.createTempDirectory("readme");
        try {
            compile(out);
            if (faults.isEmpty()) {
                run(out);
            }
        } finally {
            remove(out);
        }
    }

    private void compile(Path out) {
        JavaCompiler compiler = ToolProvider.getSystemJavaCompiler();
        List<JavaFileObject> sources = new ArrayList<>();
        for (int i = 0; i < programs.size(); i++) {
            sources.add(new Source(NAME + i, programs.get(i)));
        }
        List<String> options = List.of("-d", out.toString(), "-cp", System.getProperty("java.class.path"));
        StringWriter said = new StringWriter();
        if (!sources.isEmpty() && !compiler.getTask(said, null, null, options, null, sources).call()) {
            faults.add("the examples do not compile: " + said);
        }
    }

    private void run(Path out) throws Exception {
        URL[] where = {out.toUri().toURL()};
        try (URLClassLoader loader = new URLClassLoader(where)) {
            for (int i = 0; i < programs.size(); i++) {
                loader.loadClass(NAME + i).getMethod("run", List.class).invoke(null, faults);
            }
        }
    }

    private static void remove(Path out) throws IOException {
        try (var files = Files.list(out)) {
            for (Path file : files.toList()) {
                Files.delete(file);
            }
        }
        Files.delete(out);
    }

    /** A program's text, for the compiler. */
    private static final class Source extends SimpleJavaFileObject {
        private final String text;

        Source(String name, String text) {
            super(URI.create("string:///" + name + Kind.SOURCE.extension), Kind.SOURCE);
            this.text = text;
        }

        @Override
        public CharSequence getCharContent(boolean ignoreEncodingErrors) {
            return text;
        }
    }
}
