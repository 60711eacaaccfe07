import java.io.IOException;
import java.nio.charset.StandardCharsets;
import java.nio.file.Files;
import java.nio.file.Path;
import java.util.ArrayList;
import java.util.Comparator;
import java.util.List;
import java.util.regex.Matcher;
import java.util.regex.Pattern;
import java.util.stream.Stream;

/** What README.md says: its program and its tables answer so, its commands run, what it names is there. */
public final class ReadmeTest {
    private static final Path README = Path.of("README.md");
    private static final Path PLACE = Path.of("build", "readme");
    /** The commands run here: all that they write stays out of the project. */
    private static final Path PROJECT = PLACE.resolve("main");
    private static final String RUN_ALL = ".ci/run";
    private static final String ROWS = "ReadmeRows";

    private static final Check CHECK = new Check();

    /** What a command wrote, and how it ended. */
    private record Ended(String written, int exit) {
    }

    private ReadmeTest() {
    }

    public static void main(String[] args) throws IOException, InterruptedException {
        String readme = Files.readString(README, StandardCharsets.UTF_8);
        makePlace();
        CHECK.same("faults of the names", String.join("; ", faultsOfNames(readme)), "");
        CHECK.same("faults of the tables", String.join("; ", faultsOfTables(readme)), "");
        CHECK.same("faults of the commands", String.join("; ", faultsOfCommands(readme)), "");
        CHECK.same("faults of the finding", String.join("; ", faultsOfFinding(readme)), "");
        wrongReadmesAreTold(readme);
        CHECK.end();
    }

    private static void wrongReadmesAreTold(String readme) throws IOException, InterruptedException {
        String program = section(readme, "## Compile it with a program", "## What the answers are");
        CHECK.same("the program alone", String.join("; ", faultsOfCommands(program)), "");
        for (String[] change : new String[][] {
            {"// 3: so many grains ran", "// 2: so many grains ran"},
            {"// 0.05:", "// 0.5:"},
            {"x.rest()", "x.rests()"},
            {"java -cp out YourProgram", "java -cp out Program"},
        }) {
            CHECK.holds("told: " + change[1], !faultsOfCommands(changed(program, change)).isEmpty());
        }
        for (String[] change : new String[][] {
            {"| `1` | the player stands there", "| `2` | the player stands there"},
            {"`x.height(9, 10)`", "`x.height(9, 9)`"},
            {"`x.keep(0); x.goBack(1)`", "`x.keep(0); x.goBack(2)`"},
        }) {
            CHECK.holds("told: " + change[1], !faultsOfTables(changed(readme, change)).isEmpty());
        }
        for (String[] change : new String[][] {
            {"`movesTo`", "`moves`"},
            {"`ModelTest`", "`ModelsTest`"},
            {"`../shared/DOC.md`", "`../shared/DOCUMENT.md`"},
        }) {
            CHECK.holds("told: " + change[1], !faultsOfNames(readme.replace(change[0], change[1])).isEmpty());
        }
    }

    private static String section(String readme, String heading, String next) {
        int begin = readme.indexOf(heading);
        int end = readme.indexOf(next);
        CHECK.holds("README has, one behind the other: " + heading + ", " + next, begin >= 0 && end > begin);
        return begin >= 0 && end > begin ? readme.substring(begin, end) : "";
    }

    private static String changed(String text, String[] change) {
        CHECK.holds("README has: " + change[0], text.contains(change[0]));
        return text.replace(change[0], change[1]);
    }

    // ---- names

    /** Each call and each test is named; each file that is named is there. */
    private static List<String> faultsOfNames(String readme) throws IOException {
        List<String> faults = new ArrayList<>();
        for (String call : Face.methodNames()) {
            if (!readme.contains("`" + call + "`")) {
                faults.add("README tells no answer of " + call);
            }
        }
        for (String test : testNames()) {
            if (!readme.contains("- `" + test + "`: ")) {
                faults.add("README does not tell what " + test + " does");
            }
        }
        String places = "(?:\\.\\./shared|src|\\.ci)/[\\w./]*";
        Matcher named = Pattern.compile("`(" + places + "|\\w+(?:Test|Sentences))`").matcher(readme);
        while (named.find()) {
            String name = named.group(1);
            Path path = name.contains("/") ? Path.of(name) : Path.of("src", "test", "java", name + ".java");
            if (!Files.exists(path)) {
                faults.add("README names what is not there: " + name);
            }
        }
        return faults;
    }

    private static List<String> testNames() throws IOException {
        try (Stream<Path> files = Files.list(Path.of("src", "test", "java"))) {
            return files.map(file -> file.getFileName().toString()).filter(name -> name.endsWith("Test.java"))
                .map(name -> name.replace(".java", "")).sorted().toList();
        }
    }

    // ---- tables

    /** The last cell of each row whose first one is an answer is a run of calls: the last call answers so. */
    private static List<String> faultsOfTables(String readme) throws IOException, InterruptedException {
        List<String> answers = new ArrayList<>();
        List<String> runs = new ArrayList<>();
        Matcher row = Pattern.compile("(?m)^\\| `(-?\\d+|\\w+Exception)` \\| [^|]+ \\| `([^`]+)` \\|$").matcher(readme);
        while (row.find()) {
            answers.add(row.group(1));
            runs.add(row.group(2));
        }
        List<String> faults = new ArrayList<>();
        for (String due : new String[] {"0", "1", "2", "3", "4", "5", "6", "7", "IndexOutOfBoundsException",
            "IllegalArgumentException", "IllegalStateException"}) {
            if (!answers.contains(due)) {
                faults.add("README has no run that answers " + due);
            }
        }
        Files.writeString(PROJECT.resolve(ROWS + ".java"), programOf(runs), StandardCharsets.UTF_8);
        Ended compiled = command("javac -d out src/main/java/HourglassTag.java " + ROWS + ".java");
        Ended ended = compiled.exit == 0 ? command("java -cp out " + ROWS) : compiled;
        List<String> written = ended.written.lines().toList();
        if (ended.exit != 0 || written.size() != runs.size()) {
            faults.add("the runs of the tables ended with " + ended);
            return faults;
        }
        for (int i = 0; i < runs.size(); i++) {
            if (!written.get(i).equals(answers.get(i))) {
                faults.add(runs.get(i) + " answered " + written.get(i) + ", README says " + answers.get(i));
            }
        }
        return faults;
    }

    /** Prints the answer of each run's last call, a line each. An exception is an answer only of the last call. */
    private static String programOf(List<String> runs) {
        StringBuilder text = new StringBuilder("public final class " + ROWS + " {\n");
        text.append("public static void main(String[] args) {\n");
        for (String run : runs) {
            int last = run.lastIndexOf(';') + 1;
            text.append("{ HourglassTag x = new HourglassTag(); ").append(run, 0, last).append(" String told;")
                .append(" try { told = \"\" + ").append(run, last, run.length()).append("; }")
                .append(" catch (RuntimeException e) { told = e.getClass().getSimpleName(); }")
                .append(" System.out.println(told); }\n");
        }
        return text.append("}\n}\n").toString();
    }

    // ---- commands

    /** Each command ends with exit code 0; the program that is run prints what stands behind its lines. */
    private static List<String> faultsOfCommands(String readme) throws IOException, InterruptedException {
        List<String> faults = new ArrayList<>();
        String program = blocks(readme, "java").get(0);
        String name = nameOf(program);
        Files.writeString(PROJECT.resolve(name + ".java"), program, StandardCharsets.UTF_8);
        boolean programRan = false;
        for (String block : blocks(readme, "sh")) {
            for (String line : block.split("\n")) {
                if (line.equals(RUN_ALL)) {
                    // It is what runs this test.
                    addIf(faults, !Files.isExecutable(Path.of(RUN_ALL)), RUN_ALL + " can't be run");
                    continue;
                }
                Ended ended = command(line);
                addIf(faults, ended.exit != 0, line + " ended with " + ended);
                if (line.matches("java .* " + name)) {
                    programRan = true;
                    compare(faults, dueOf(program), ended.written);
                }
            }
        }
        addIf(faults, !programRan, "no command runs " + name);
        return faults;
    }

    private static void addIf(List<String> faults, boolean wrong, String fault) {
        if (wrong) {
            faults.add(fault);
        }
    }

    private static void compare(List<String> faults, String due, String written) {
        addIf(faults, !written.equals(due), "the program wrote\n" + written + "README says\n" + due);
    }

    private static String nameOf(String program) {
        Matcher name = Pattern.compile("public final class (\\w+)").matcher(program);
        return name.find() ? name.group(1) : "";
    }

    /** Of each line that prints, what stands behind it, up to a colon. */
    private static String dueOf(String program) {
        StringBuilder due = new StringBuilder();
        for (String line : program.split("\n")) {
            if (line.contains("System.out.println(")) {
                String told = line.contains("// ") ? line.substring(line.indexOf("// ") + 3) : "nothing is told";
                due.append(told.contains(": ") ? told.substring(0, told.indexOf(": ")) : told).append('\n');
            }
        }
        return due.toString();
    }

    /** The command that finds the tests of one promise finds those of each promise. */
    private static List<String> faultsOfFinding(String readme) throws IOException, InterruptedException {
        List<String> faults = new ArrayList<>();
        Matcher finding = Pattern.compile("(?m)^grep .*promise20_.*$").matcher(readme);
        if (!finding.find()) {
            faults.add("README does not tell how to find a promise's tests");
            return faults;
        }
        for (int promise = 1; promise <= 26; promise++) {
            Ended ended = command(finding.group().replace("promise20_", "promise" + promise + "_"));
            boolean found = ended.exit == 0 && ended.written.contains("void promise" + promise + "_");
            addIf(faults, !found, "no test of promise " + promise);
        }
        return faults;
    }

    private static List<String> blocks(String readme, String language) {
        List<String> blocks = new ArrayList<>();
        Matcher block = Pattern.compile("(?ms)^```" + language + "\n(.*?)^```$").matcher(readme);
        while (block.find()) {
            blocks.add(block.group(1));
        }
        return blocks;
    }

    private static Ended command(String line) throws IOException, InterruptedException {
        Process process = new ProcessBuilder("bash", "-c", line).directory(PROJECT.toFile())
            .redirectErrorStream(true).start();
        process.getOutputStream().close();
        String written = new String(process.getInputStream().readAllBytes(), StandardCharsets.UTF_8);
        return new Ended(written, process.waitFor());
    }

    // ---- the place where the commands run

    /** A project of links: the sources and ../shared are found there where the commands look for them. */
    private static void makePlace() throws IOException {
        remove(PLACE);
        Files.createDirectories(PROJECT);
        Files.createSymbolicLink(PLACE.resolve("shared"), Path.of("..", "shared").toRealPath());
        Files.createSymbolicLink(PROJECT.resolve("src"), Path.of("src").toRealPath());
    }

    private static void remove(Path place) throws IOException {
        if (!Files.exists(place)) {
            return;
        }
        try (Stream<Path> below = Files.walk(place)) {
            for (Path path : below.sorted(Comparator.reverseOrder()).toList()) {
                Files.delete(path);
            }
        }
    }
}
