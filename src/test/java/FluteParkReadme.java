import java.io.IOException;
import java.io.StringWriter;
import java.lang.reflect.InvocationTargetException;
import java.lang.reflect.Method;
import java.lang.reflect.Modifier;
import java.net.URI;
import java.net.URL;
import java.net.URLClassLoader;
import java.nio.charset.StandardCharsets;
import java.nio.file.Files;
import java.nio.file.Path;
import java.util.ArrayList;
import java.util.Comparator;
import java.util.List;
import java.util.Set;
import java.util.TreeSet;
import java.util.regex.Matcher;
import java.util.regex.Pattern;
import java.util.stream.Stream;
import javax.tools.Diagnostic;
import javax.tools.DiagnosticCollector;
import javax.tools.JavaCompiler;
import javax.tools.JavaFileObject;
import javax.tools.SimpleJavaFileObject;
import javax.tools.ToolProvider;

/**
 * What README.md shows is so: its blocks of Java are compiled as they stand and run in their order, and each call with an
 * answer behind it must answer that; every call of the face is shown, every test of the project is listed.
 */
public final class FluteParkReadme {
    private static final Pattern BLOCK = Pattern.compile("^```java\\n(.*?)^```$", Pattern.MULTILINE | Pattern.DOTALL);
    private static final Pattern SHOWN =
            Pattern.compile("(x\\.(\\w+)\\([^()]*\\)); +// (-?\\d+|NONE|UNKNOWN|OUTSIDE|NOT|FULL)(: .*)?");
    private static final String EXAMPLE = "ReadmeExample";
    private static int wrong = 0;

    private static void demand(boolean so, String what) {
        if (!so) {
            wrong++;
            System.out.println(what);
        }
    }

    /** Called by what is made of README.md's blocks. */
    public static void due(String call, long got, long want) {
        demand(got == want, "README.md: " + call + " answered " + got + ", shown is " + want);
    }

    public static void main(String[] args) throws IOException, ReflectiveOperationException {
        String readme = Files.readString(Path.of("README.md"), StandardCharsets.UTF_8);
        List<String> blocks = new ArrayList<>();
        for (Matcher m = BLOCK.matcher(readme); m.find();) {
            blocks.add(m.group(1));
        }
        demand(!blocks.isEmpty(), "README.md has no block of Java");
        everyCallIsShown(blocks);
        everyTestIsListed(readme);
        runAll(programOf(blocks));
        System.out.println(wrong == 0 ? "all is as README.md shows it" : wrong + " faults in README.md");
        if (wrong != 0) {
            System.exit(1);
        }
    }

    private static void everyCallIsShown(List<String> blocks) {
        Set<String> shown = new TreeSet<>();
        for (String block : blocks) {
            for (Matcher m = SHOWN.matcher(block); m.find();) {
                shown.add(m.group(2));
            }
        }
        for (Method method : FlutePark.class.getDeclaredMethods()) {
            if (Modifier.isPublic(method.getModifiers())) {
                demand(shown.contains(method.getName()), "README.md does not show " + method.getName());
            }
        }
    }

    private static void everyTestIsListed(String readme) throws IOException {
        try (Stream<Path> files = Files.list(Path.of("src/test/java"))) {
            for (Path file : files.toList()) {
                demand(readme.contains("`src/test/java/" + file.getFileName() + "`"), "README.md does not list " + file);
            }
        }
    }

    /** Blocks that begin with a method are the program's methods; the others are its run. */
    private static String programOf(List<String> blocks) {
        StringBuilder methods = new StringBuilder();
        StringBuilder run = new StringBuilder();
        for (String block : blocks) {
            if (block.startsWith("static ")) {
                methods.append(block);
                continue;
            }
            for (String line : block.split("\n")) {
                run.append(checked(line)).append('\n');
            }
        }
        return "public class " + EXAMPLE + " {\n" + methods + "public static void run() {\n" + run + "}\n}\n";
    }

    private static String checked(String line) {
        Matcher m = SHOWN.matcher(line);
        if (!m.matches()) {
            demand(!line.contains("//"), "README.md shows no answer that can be tested: " + line);
            return line;
        }
        String want = Character.isLetter(m.group(3).charAt(0)) ? "FlutePark." + m.group(3) : m.group(3) + "L";
        return "FluteParkReadme.due(\"" + m.group(1) + "\", " + m.group(1) + ", " + want + ");";
    }

    private static void runAll(String program) throws IOException, ReflectiveOperationException {
        Path built = Files.createTempDirectory("readme");
        try {
            if (compile(program, built)) {
                run(built);
            }
        } finally {
            remove(built);
        }
    }

    private static boolean compile(String program, Path built) {
        JavaCompiler compiler = ToolProvider.getSystemJavaCompiler();
        if (compiler == null) {
            demand(false, "there is no compiler to run README.md's blocks with");
            return false;
        }
        DiagnosticCollector<JavaFileObject> told = new DiagnosticCollector<>();
        JavaFileObject source = new SimpleJavaFileObject(URI.create("string:///" + EXAMPLE + ".java"),
                JavaFileObject.Kind.SOURCE) {
            @Override
            public CharSequence getCharContent(boolean ignoring) {
                return program;
            }
        };
        List<String> options = List.of("-d", built.toString(), "-cp", System.getProperty("java.class.path"));
        boolean compiles = compiler.getTask(new StringWriter(), null, told, options, null, List.of(source)).call();
        for (Diagnostic<? extends JavaFileObject> one : told.getDiagnostics()) {
            demand(compiles, "README.md: " + one.getMessage(null));
        }
        return compiles;
    }

    private static void run(Path built) throws IOException, ReflectiveOperationException {
        URL[] where = {built.toUri().toURL()};
        try (URLClassLoader loader = new URLClassLoader(where, FluteParkReadme.class.getClassLoader())) {
            loader.loadClass(EXAMPLE).getMethod("run").invoke(null);
        } catch (InvocationTargetException thrown) {
            demand(false, "README.md: its blocks throw " + thrown.getCause());
        }
    }

    private static void remove(Path directory) throws IOException {
        try (Stream<Path> all = Files.walk(directory)) {
            for (Path one : all.sorted(Comparator.reverseOrder()).toList()) {
                Files.delete(one);
            }
        }
    }
}
