import com.sun.source.tree.CompilationUnitTree;
import com.sun.source.tree.Tree;
import com.sun.source.util.JavacTask;
import com.sun.source.util.SourcePositions;
import com.sun.source.util.Trees;
import java.io.ByteArrayOutputStream;
import java.io.IOException;
import java.io.OutputStream;
import java.net.URI;
import java.nio.charset.StandardCharsets;
import java.nio.file.Files;
import java.nio.file.Path;
import java.util.HashMap;
import java.util.List;
import java.util.Map;
import javax.tools.DiagnosticListener;
import javax.tools.FileObject;
import javax.tools.ForwardingJavaFileManager;
import javax.tools.JavaCompiler;
import javax.tools.JavaFileManager;
import javax.tools.JavaFileObject;
import javax.tools.SimpleJavaFileObject;
import javax.tools.ToolProvider;

/** Sources that are held in memory alone: the program as it stands, and the wrong programs that tests make of it. */
final class Programs {
    private static final Path PROGRAM = Path.of("src", "main", "java", "HourglassTag.java");
    private static final JavaCompiler COMPILER = ToolProvider.getSystemJavaCompiler();
    /** One for each thread, used again: what it has read of the Java library it reads once. */
    private static final ThreadLocal<JavaFileManager> FILES =
        ThreadLocal.withInitial(() -> COMPILER.getStandardFileManager(null, null, null));

    private Programs() {
    }

    static String asItStands() throws IOException {
        return Files.readString(PROGRAM, StandardCharsets.UTF_8);
    }

    /** A source as a tree, and where each part of it stands. */
    record Parsed(CompilationUnitTree unit, SourcePositions places) {
        long firstLineOf(Tree tree) {
            return unit.getLineMap().getLineNumber(places.getStartPosition(unit, tree));
        }

        long lastLineOf(Tree tree) {
            return unit.getLineMap().getLineNumber(places.getEndPosition(unit, tree));
        }
    }

    /** What only the compiler would tell (a missing body) is not looked at. */
    static Parsed parse(String source) throws IOException {
        JavacTask task = (JavacTask) task(source, FILES.get(), message -> {
            throw new IllegalStateException(message.toString());
        });
        SourcePositions places = Trees.instance(task).getSourcePositions();
        return new Parsed(task.parse().iterator().next(), places);
    }

    /** What the compiler tells, or an empty text: then the classes are put into the map by their names. */
    static String compile(String source, Map<String, byte[]> classes) {
        StringBuilder trouble = new StringBuilder();
        boolean fine = task(source, new InMemory(FILES.get(), classes),
            message -> trouble.append(message.getMessage(null)).append("; ")).call();
        return fine ? "" : trouble.toString();
    }

    /** Compiles the source and answers its HourglassTag, apart from the one that the test itself is compiled with. */
    static Class<?> load(String source) throws ClassNotFoundException {
        Map<String, byte[]> classes = new HashMap<>();
        String trouble = compile(source, classes);
        if (!trouble.isEmpty()) {
            throw new IllegalStateException(trouble);
        }
        return new ClassLoader(null) {
            @Override
            protected Class<?> findClass(String name) throws ClassNotFoundException {
                byte[] bytes = classes.get(name);
                if (bytes == null) {
                    throw new ClassNotFoundException(name);
                }
                return defineClass(name, bytes, 0, bytes.length);
            }
        }.loadClass("HourglassTag");
    }

    private static JavaCompiler.CompilationTask task(String source, JavaFileManager files,
            DiagnosticListener<JavaFileObject> trouble) {
        JavaFileObject text = new SimpleJavaFileObject(URI.create("string:///HourglassTag.java"),
                JavaFileObject.Kind.SOURCE) {
            @Override
            public CharSequence getCharContent(boolean ignoreErrors) {
                return source;
            }
        };
        return COMPILER.getTask(null, files, trouble, List.of("-proc:none", "-Xlint:none"), null, List.of(text));
    }

    /** Keeps what is compiled, and writes no file. */
    private static final class InMemory extends ForwardingJavaFileManager<JavaFileManager> {
        private final Map<String, byte[]> classes;

        InMemory(JavaFileManager files, Map<String, byte[]> classes) {
            super(files);
            this.classes = classes;
        }

        @Override
        public JavaFileObject getJavaFileForOutput(Location location, String name, JavaFileObject.Kind kind,
                FileObject sibling) {
            return new SimpleJavaFileObject(URI.create("string:///" + name + ".class"), kind) {
                @Override
                public OutputStream openOutputStream() {
                    return new ByteArrayOutputStream() {
                        @Override
                        public void close() {
                            classes.put(name, toByteArray());
                        }
                    };
                }
            };
        }
    }
}
