import java.io.File;
import java.io.IOException;
import java.lang.reflect.Method;
import java.lang.reflect.Modifier;
import java.nio.charset.StandardCharsets;
import java.nio.file.Files;
import java.nio.file.Path;
import java.util.ArrayList;
import java.util.List;
import java.util.TreeSet;
import java.util.regex.Matcher;
import java.util.regex.Pattern;

/** What README.md shows of the use of the class: it compiles by the commands told there, and answers as told there. */
public final class ReadmeTest {
    private static final Path ROOT = Path.of(System.getProperty("placecard.root", "."));

    private static final Check check = new Check("ReadmeTest");
    private static final String PAGE = Document.read("placecard.readme", "README.md");

    public static void main(String[] args) throws IOException, InterruptedException {
        program();
        calls();
        tests();
        check.end();
    }

    /** What the page shows as a program of this kind. */
    private static String block(String kind) {
        return Document.between(PAGE, "\n```" + kind + "\n", "\n```");
    }

    // ---- the program

    private static void program() throws IOException, InterruptedException {
        Path place = Files.createTempDirectory("placecard");
        try {
            Path source = place.resolve("src/main/java/Placecard.java");
            Files.createDirectories(source.getParent());
            Files.copy(Path.of(System.getProperty("placecard.source", "src/main/java/Placecard.java")), source);
            Files.writeString(place.resolve("YourProgram.java"), block("java") + "\n");
            List<String> printed = runThere(place, block("sh"));
            List<String> told = told();
            check.due("how many lines the program prints", printed.size(), told.size());
            for (int i = 0; i < Math.min(printed.size(), told.size()); i++) {
                check.due("what the program prints, line " + (i + 1), printed.get(i), told.get(i));
            }
        } finally {
            remove(place.toFile());
        }
    }

    private static List<String> runThere(Path place, String commands) throws IOException, InterruptedException {
        ProcessBuilder builder = new ProcessBuilder("sh", "-e", "-c", commands);
        Process process = builder.directory(place.toFile()).redirectErrorStream(true).start();
        String text = new String(process.getInputStream().readAllBytes(), StandardCharsets.US_ASCII);
        check.due("the commands' exit code", process.waitFor(), 0);
        return text.lines().toList();
    }

    /** What stands behind the lines that print, in their order; each of them tells something. */
    private static List<String> told() {
        List<String> found = new ArrayList<>();
        for (String line : block("java").lines().toList()) {
            if (line.contains("System.out.println(")) {
                int behind = line.lastIndexOf("// ");
                check.due("it is told what this prints: " + line.strip(), behind > 0, true);
                found.add(line.substring(behind + 3).strip());
            }
        }
        check.due("the program prints something", found.size() > 20, true);
        return found;
    }

    private static void remove(File file) {
        File[] inside = file.listFiles();
        for (int i = 0; inside != null && i < inside.length; i++) {
            remove(inside[i]);
        }
        file.delete();
    }

    // ---- the tables

    /** The names in the first or second column of the rows between two texts. */
    private static TreeSet<String> named(String start, String end) {
        TreeSet<String> found = new TreeSet<>();
        for (String row : Document.between(PAGE, start, end).lines().toList()) {
            Matcher matcher = Pattern.compile("`(\\w+)`").matcher(row.startsWith("|") ? row : "");
            while (matcher.find()) {
                found.add(matcher.group(1));
            }
        }
        return found;
    }

    private static void calls() {
        TreeSet<String> face = new TreeSet<>();
        for (Method method : Placecard.class.getDeclaredMethods()) {
            if (Modifier.isPublic(method.getModifiers())) {
                face.add(method.getName());
            }
        }
        check.due("the calls that the page names", named("All calls:", "A house takes"), face);
    }

    private static void tests() throws IOException {
        TreeSet<String> there = new TreeSet<>();
        try (var files = Files.list(ROOT.resolve("tests"))) {
            files.map(file -> file.getFileName().toString()).filter(name -> name.endsWith("Test.java"))
                    .forEach(name -> there.add(name.substring(0, name.length() - ".java".length())));
        }
        TreeSet<String> told = named("## Tests", "help the tests");
        told.removeIf(name -> !name.endsWith("Test"));
        check.due("the tests that the page names", told, there);
    }
}
