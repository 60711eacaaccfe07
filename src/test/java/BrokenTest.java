import java.io.ByteArrayOutputStream;
import java.io.IOException;
import java.io.InputStream;
import java.io.OutputStream;
import java.lang.reflect.InvocationTargetException;
import java.lang.reflect.Method;
import java.net.URI;
import java.nio.charset.StandardCharsets;
import java.nio.file.Files;
import java.nio.file.Path;
import java.util.ArrayList;
import java.util.HashMap;
import java.util.List;
import java.util.Map;
import java.util.stream.IntStream;
import javax.tools.FileObject;
import javax.tools.ForwardingJavaFileManager;
import javax.tools.JavaCompiler;
import javax.tools.JavaFileManager;
import javax.tools.JavaFileObject;
import javax.tools.SimpleJavaFileObject;
import javax.tools.ToolProvider;

/** Breaks the program sentence by sentence: the test of the sentence has to fail with each wrong program. */
public final class BrokenTest {
    private static final Path PROGRAM = Path.of("src", "main", "java", "HourglassTag.java");
    private static final JavaCompiler COMPILER = ToolProvider.getSystemJavaCompiler();
    /** One for each thread, used again: what it has read of the Java library it reads once. */
    private static final ThreadLocal<JavaFileManager> FILES =
        ThreadLocal.withInitial(() -> COMPILER.getStandardFileManager(null, null, null));

    private BrokenTest() {
    }

    public static void main(String[] args) throws IOException {
        String source = Files.readString(PROGRAM, StandardCharsets.UTF_8);
        List<Sentence> sentences = Sentences.ofDocument();
        Check check = new Check();
        check.same("the program as it is", wrongWith(source, 0), "");
        List<int[]> all = new ArrayList<>();
        for (int i = 0; i < sentences.size(); i++) {
            Sentence sentence = sentences.get(i);
            check.holds(sentence.name() + " can be broken", !sentence.isTested() || !sentence.breaks.isEmpty());
            for (int k = 0; k < sentence.breaks.size(); k++) {
                all.add(new int[] {i, k});
            }
        }
        String[] faults = new String[all.size()];
        IntStream.range(0, all.size()).parallel().forEach(n -> {
            int[] which = all.get(n);
            faults[n] = faultOf(source, sentences.get(which[0]).breaks.get(which[1]), which[0]);
        });
        for (int n = 0; n < faults.length; n++) {
            Sentence sentence = sentences.get(all.get(n)[0]);
            check.holds(sentence.name() + " -- " + faults[n], faults[n].isEmpty());
        }
        check.end();
    }

    /** What is wrong with this break, or an empty text: the sentence's test told it. */
    private static String faultOf(String source, Sentence.Break one, int number) {
        int anchor = source.indexOf(one.anchor());
        if (anchor < 0 || source.indexOf(one.anchor(), anchor + 1) >= 0) {
            return "stands not once in the program: " + one.anchor();
        }
        int at = source.indexOf(one.from(), anchor);
        if (at < 0) {
            return "stands not behind " + one.anchor() + ": " + one.from();
        }
        String broken = source.substring(0, at) + one.to() + source.substring(at + one.from().length());
        String wrong = wrongWith(broken, number);
        if (wrong.startsWith("COMPILER")) {
            return wrong;
        }
        return wrong.isEmpty() ? "not told: " + one.anchor() + " ... " + one.from() + " -> " + one.to() : "";
    }

    /** What the test of the sentence tells first, when it runs with this program. */
    private static String wrongWith(String source, int number) {
        Map<String, byte[]> classes = new HashMap<>();
        String trouble = compile(source, classes);
        if (!trouble.isEmpty()) {
            return "COMPILER: " + trouble;
        }
        try {
            Class<?> tests = Class.forName("Sentences", true, new Loader(classes));
            Method wrongOf = tests.getDeclaredMethod("wrongOf", int.class);
            wrongOf.setAccessible(true);
            return (String) wrongOf.invoke(null, number);
        } catch (InvocationTargetException e) {
            return "threw " + e.getCause();
        } catch (ReflectiveOperationException e) {
            throw new IllegalStateException(e);
        }
    }

    private static String compile(String source, Map<String, byte[]> classes) {
        StringBuilder trouble = new StringBuilder();
        JavaFileObject text = new SimpleJavaFileObject(URI.create("string:///HourglassTag.java"),
                JavaFileObject.Kind.SOURCE) {
            @Override
            public CharSequence getCharContent(boolean ignoreErrors) {
                return source;
            }
        };
        JavaFileManager files = new InMemory(FILES.get(), classes);
        boolean fine = COMPILER.getTask(null, files, message -> trouble.append(message.getMessage(null)).append("; "),
            List.of("-proc:none", "-Xlint:none", "-g:none"), null, List.of(text)).call();
        return fine ? "" : trouble.toString();
    }

    /** Keeps what is compiled, and writes no file. */
    private static final class InMemory extends ForwardingJavaFileManager<JavaFileManager> {
        private final Map<String, byte[]> classes;

        InMemory(JavaFileManager files, Map<String, byte[]> classes) {
            super(files);
            this.classes = classes;
        }

        @Override
        public JavaFileObject getJavaFileForOutput(Location location, String name, JavaFileObject.Kind kind,
                FileObject sibling) {
            return new SimpleJavaFileObject(URI.create("string:///" + name + ".class"), kind) {
                @Override
                public OutputStream openOutputStream() {
                    return new ByteArrayOutputStream() {
                        @Override
                        public void close() {
                            classes.put(name, toByteArray());
                        }
                    };
                }
            };
        }
    }

    /** Loads the broken program, and the tests once more together with it. */
    private static final class Loader extends ClassLoader {
        private final Map<String, byte[]> classes;

        Loader(Map<String, byte[]> classes) {
            super(BrokenTest.class.getClassLoader());
            this.classes = classes;
        }

        @Override
        protected Class<?> loadClass(String name, boolean resolve) throws ClassNotFoundException {
            synchronized (getClassLoadingLock(name)) {
                Class<?> loaded = findLoadedClass(name);
                if (loaded != null) {
                    return loaded;
                }
                byte[] bytes = bytesOf(name);
                return bytes == null ? super.loadClass(name, resolve) : defineClass(name, bytes, 0, bytes.length);
            }
        }

        private byte[] bytesOf(String name) throws ClassNotFoundException {
            if (name.contains(".") || name.startsWith("BrokenTest")) {
                return null;
            }
            if (name.equals("HourglassTag") || name.startsWith("HourglassTag$")) {
                return classes.get(name);
            }
            try (InputStream in = getParent().getResourceAsStream(name + ".class")) {
                return in == null ? null : in.readAllBytes();
            } catch (IOException e) {
                throw new ClassNotFoundException(name, e);
            }
        }
    }
}
