import java.io.ByteArrayOutputStream;
import java.io.OutputStream;
import java.io.PrintStream;
import java.lang.reflect.InvocationTargetException;
import java.net.URI;
import java.nio.file.Files;
import java.nio.file.Path;
import java.util.HashMap;
import java.util.List;
import java.util.Map;
import javax.tools.FileObject;
import javax.tools.ForwardingJavaFileManager;
import javax.tools.JavaCompiler;
import javax.tools.JavaFileObject;
import javax.tools.SimpleJavaFileObject;
import javax.tools.StandardJavaFileManager;
import javax.tools.ToolProvider;

/** For tools/mutants.py: SOURCE CHANGES SHARD SHARDS TESTS NAMES; compiles each change in memory and runs the tests. */
public final class MutantRunner {
    private static final int MILLISECONDS = 20000;
    private static final JavaCompiler COMPILER = ToolProvider.getSystemJavaCompiler();
    private static final StandardJavaFileManager FILES = COMPILER.getStandardFileManager(null, null, null);

    private static final class Source extends SimpleJavaFileObject {
        private final String text;

        private Source(String text) {
            super(URI.create("string:///ArrayHouse.java"), Kind.SOURCE);
            this.text = text;
        }

        @Override public CharSequence getCharContent(boolean ignore) {
            return text;
        }
    }

    private static final class Made extends SimpleJavaFileObject {
        private final ByteArrayOutputStream bytes = new ByteArrayOutputStream();

        private Made(String name) {
            super(URI.create("mem:///" + name + ".class"), Kind.CLASS);
        }

        @Override public OutputStream openOutputStream() {
            return bytes;
        }
    }

    private static final class Memory extends ForwardingJavaFileManager<StandardJavaFileManager> {
        private final Map<String, Made> made = new HashMap<>();

        private Memory() {
            super(FILES);
        }

        @Override public JavaFileObject getJavaFileForOutput(Location place, String name, JavaFileObject.Kind kind, FileObject from) {
            made.put(name, new Made(name));
            return made.get(name);
        }
    }

    private static final class Loader extends ClassLoader {
        private final Map<String, byte[]> classes;

        private Loader(Map<String, byte[]> classes) {
            super(MutantRunner.class.getClassLoader().getParent());
            this.classes = classes;
        }

        @Override protected Class<?> findClass(String name) throws ClassNotFoundException {
            byte[] bytes = classes.get(name);
            if (bytes == null) throw new ClassNotFoundException(name);
            return defineClass(name, bytes, 0, bytes.length);
        }
    }

    private static final class Exit extends RuntimeException {
        private final int code;

        private Exit(int code) {
            this.code = code;
        }
    }

    /** The program's classes added to the tests'; null if it does not compile. */
    private static Map<String, byte[]> compiled(String text, Map<String, byte[]> tests) {
        Memory memory = new Memory();
        if (!COMPILER.getTask(null, memory, d -> { }, List.of("-proc:none"), null, List.of(new Source(text))).call()) return null;
        Map<String, byte[]> all = new HashMap<>(tests);
        memory.made.forEach((name, made) -> all.put(name, made.bytes.toByteArray()));
        return all;
    }

    private static boolean runs(Loader loader, String test) {
        try {
            loader.loadClass(test).getMethod("main", String[].class).invoke(null, (Object) new String[0]);
            return true;
        } catch (InvocationTargetException e) {
            return e.getCause() instanceof Exit && ((Exit) e.getCause()).code == 0;
        } catch (Throwable e) {
            return false;
        }
    }

    @SuppressWarnings("deprecation")
    private static boolean noticed(Map<String, byte[]> classes, String[] tests) throws InterruptedException {
        for (String test : tests) {
            boolean[] fine = {false};
            Loader loader = new Loader(classes);
            Thread thread = new Thread(() -> fine[0] = runs(loader, test));
            thread.start();
            thread.join(MILLISECONDS);
            if (thread.isAlive()) thread.stop();
            if (!fine[0]) return true;
        }
        return false;
    }

    public static void main(String[] args) throws Exception {
        System.setSecurityManager(new SecurityManager() {
            @Override public void checkPermission(java.security.Permission p) { }

            @Override public void checkExit(int code) {
                throw new Exit(code);
            }
        });
        PrintStream out = System.out;
        System.setOut(new PrintStream(OutputStream.nullOutputStream()));
        String source = Files.readString(Path.of(args[0]));
        List<String> changes = Files.readAllLines(Path.of(args[1]));
        String[] names = args[5].split(",");
        Map<String, byte[]> tests = new HashMap<>();
        try (var files = Files.list(Path.of(args[4]))) {
            for (Path p : files.toList()) tests.put(p.getFileName().toString().replace(".class", ""), Files.readAllBytes(p));
        }
        if (noticed(compiled(source, tests), names)) out.println("the tests fail without a change");
        for (int i = Integer.parseInt(args[2]); i < changes.size(); i += Integer.parseInt(args[3])) {
            String[] change = changes.get(i).split("\t", -1);
            Map<String, byte[]> classes = compiled(source.substring(0, Integer.parseInt(change[0])) + change[2]
                + source.substring(Integer.parseInt(change[1])), tests);
            out.println(i + (classes == null ? " does not compile" : noticed(classes, names) ? " noticed" : " not noticed"));
        }
        out.flush();
        Runtime.getRuntime().halt(0);
    }
}
