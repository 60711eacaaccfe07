import java.io.IOException;
import java.io.InputStream;
import java.lang.reflect.InvocationTargetException;
import java.lang.reflect.Method;
import java.util.ArrayList;
import java.util.HashMap;
import java.util.List;
import java.util.Map;
import java.util.stream.IntStream;

/** Breaks the program sentence by sentence: the test of the sentence has to fail with each wrong program. */
public final class BrokenTest {
    private BrokenTest() {
    }

    public static void main(String[] args) throws IOException {
        String source = Programs.asItStands();
        List<Sentence> sentences = Sentences.ofDocument();
        Check check = new Check();
        check.same("the program as it is", wrongWith(source, 0), "");
        List<int[]> all = new ArrayList<>();
        for (int i = 0; i < sentences.size(); i++) {
            Sentence sentence = sentences.get(i);
            check.holds(sentence.name() + " can be broken", !sentence.isTested() || !sentence.breaks.isEmpty());
            for (int k = 0; k < sentence.breaks.size(); k++) {
                all.add(new int[] {i, k});
            }
        }
        String[] faults = new String[all.size()];
        IntStream.range(0, all.size()).parallel().forEach(n -> {
            int[] which = all.get(n);
            faults[n] = faultOf(source, sentences.get(which[0]).breaks.get(which[1]), which[0]);
        });
        for (int n = 0; n < faults.length; n++) {
            Sentence sentence = sentences.get(all.get(n)[0]);
            check.holds(sentence.name() + " -- " + faults[n], faults[n].isEmpty());
        }
        check.end();
    }

    /** What is wrong with this break, or an empty text: the sentence's test told it. */
    private static String faultOf(String source, Sentence.Break one, int number) {
        int anchor = source.indexOf(one.anchor());
        if (anchor < 0 || source.indexOf(one.anchor(), anchor + 1) >= 0) {
            return "stands not once in the program: " + one.anchor();
        }
        int at = source.indexOf(one.from(), anchor);
        if (at < 0) {
            return "stands not behind " + one.anchor() + ": " + one.from();
        }
        String broken = source.substring(0, at) + one.to() + source.substring(at + one.from().length());
        String wrong = wrongWith(broken, number);
        if (wrong.startsWith("COMPILER")) {
            return wrong;
        }
        return wrong.isEmpty() ? "not told: " + one.anchor() + " ... " + one.from() + " -> " + one.to() : "";
    }

    /** What the test of the sentence tells first, when it runs with this program. */
    private static String wrongWith(String source, int number) {
        Map<String, byte[]> classes = new HashMap<>();
        String trouble = Programs.compile(source, classes);
        if (!trouble.isEmpty()) {
            return "COMPILER: " + trouble;
        }
        try {
            Class<?> tests = Class.forName("Sentences", true, new Loader(classes));
            Method wrongOf = tests.getDeclaredMethod("wrongOf", int.class);
            wrongOf.setAccessible(true);
            return (String) wrongOf.invoke(null, number);
        } catch (InvocationTargetException e) {
            return "threw " + e.getCause();
        } catch (ReflectiveOperationException e) {
            throw new IllegalStateException(e);
        }
    }

    /** Loads the broken program, and the tests once more together with it. */
    private static final class Loader extends ClassLoader {
        private final Map<String, byte[]> classes;

        Loader(Map<String, byte[]> classes) {
            super(BrokenTest.class.getClassLoader());
            this.classes = classes;
        }

        @Override
        protected Class<?> loadClass(String name, boolean resolve) throws ClassNotFoundException {
            synchronized (getClassLoadingLock(name)) {
                Class<?> loaded = findLoadedClass(name);
                if (loaded != null) {
                    return loaded;
                }
                byte[] bytes = bytesOf(name);
                return bytes == null ? super.loadClass(name, resolve) : defineClass(name, bytes, 0, bytes.length);
            }
        }

        private byte[] bytesOf(String name) throws ClassNotFoundException {
            if (name.contains(".") || name.startsWith("BrokenTest")) {
                return null;
            }
            if (name.equals("HourglassTag") || name.startsWith("HourglassTag$")) {
                return classes.get(name);
            }
            try (InputStream in = getParent().getResourceAsStream(name + ".class")) {
                return in == null ? null : in.readAllBytes();
            } catch (IOException e) {
                throw new ClassNotFoundException(name, e);
            }
        }
    }
}
