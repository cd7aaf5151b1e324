import java.io.IOException;
import java.nio.charset.StandardCharsets;
import java.nio.file.Files;
import java.nio.file.Path;
import java.util.ArrayList;
import java.util.List;
import java.util.Set;
import java.util.TreeSet;
import java.util.concurrent.TimeUnit;
import java.util.regex.Matcher;
import java.util.regex.Pattern;
import java.util.stream.Stream;

/** What README.md tells: its program, run by its own commands, prints its answers; its tests are those there are. */
public final class ReadmeTest {
    private static final Check CHECK = new Check("ReadmeTest");
    private static final Path CLASS = Path.of("src/main/java/LipsAndSlides.java");
    private static final Path RUN = Path.of(".ci/run");

    public static void main(String[] args) throws IOException, InterruptedException {
        String page = Files.readString(Path.of("README.md"), StandardCharsets.UTF_8);
        int tests = page.indexOf("\n## Tests\n");
        CHECK.holds("it says how to use the class, then how to run its tests", page.indexOf("\n## Use\n") > 0
                && tests > page.indexOf("\n## Use\n"));
        if (tests > 0) {
            use(page.substring(0, tests));
            wayToTest(page.substring(tests));
            tableOfTests(page.substring(tests));
        }
        CHECK.finish();
    }

    private static String onlyBlock(String section, String language) {
        Matcher block = Pattern.compile("(?s)\n```" + language + "\n(.*?)```\n").matcher(section);
        String found = block.find() ? block.group(1) : "";
        CHECK.holds("one block of " + language + " and no more", !found.isEmpty() && !block.find());
        return found;
    }

    // ---- use

    private static void use(String section) throws IOException, InterruptedException {
        String program = onlyBlock(section, "java");
        List<String> calls = new ArrayList<>();
        List<String> due = new ArrayList<>();
        for (String line : program.split("\n")) {
            Matcher told = Pattern.compile("System\\.out\\.println\\((.*)\\); +// (-?\\d+)\\b.*").matcher(line);
            if (told.find()) {
                calls.add(told.group(1));
                due.add(told.group(2));
            } else {
                CHECK.holds("a call without its answer: " + line, !line.contains("println"));
            }
        }
        CHECK.holds("there are calls", calls.size() >= 20);
        List<String> printed = printedBy(program, onlyBlock(section, "sh"));
        CHECK.due("lines that are printed", printed.size(), due.size());
        for (int i = 0; i < Math.min(printed.size(), due.size()); i++) {
            CHECK.holds("README: " + calls.get(i) + " answered " + printed.get(i) + ", told is " + due.get(i),
                    printed.get(i).equals(due.get(i)));
        }
    }

    /** Runs the page's commands in a folder that has the class and the page's program alone. */
    private static List<String> printedBy(String program, String commands) throws IOException, InterruptedException {
        Path folder = Files.createTempDirectory("readme");
        try {
            Files.createDirectories(folder.resolve(CLASS).getParent());
            Files.copy(CLASS, folder.resolve(CLASS));
            Files.writeString(folder.resolve("Use.java"), program);
            Path printed = folder.resolve("printed");
            Process shell = new ProcessBuilder("bash", "-e", "-c", commands).directory(folder.toFile())
                    .redirectOutput(printed.toFile()).redirectError(ProcessBuilder.Redirect.INHERIT).start();
            boolean ended = shell.waitFor(5, TimeUnit.MINUTES);
            if (!ended) {
                shell.destroyForcibly().waitFor();
            }
            CHECK.holds("its commands end without a fault", ended && shell.exitValue() == 0);
            return Files.readAllLines(printed);
        } finally {
            remove(folder);
        }
    }

    private static void remove(Path folder) throws IOException {
        List<Path> all;
        try (Stream<Path> walk = Files.walk(folder)) {
            all = new ArrayList<>(walk.toList());
        }
        java.util.Collections.reverse(all);
        for (Path path : all) {
            Files.delete(path);
        }
    }

    // ---- tests

    private static void wayToTest(String section) throws IOException {
        CHECK.holds("the tests are run by .ci/run", onlyBlock(section, "sh").equals(RUN + "\n"));
        CHECK.holds("which can be run as it is", Files.isExecutable(RUN));
        CHECK.holds("by bash, as told", Files.readAllLines(RUN).get(0).equals("#!/bin/bash"));
    }

    private static void tableOfTests(String section) throws IOException {
        Set<String> told = new TreeSet<>();
        Matcher row = Pattern.compile("\n\\| `(\\w+)` \\|").matcher(section);
        while (row.find()) {
            told.add(row.group(1) + ".java");
        }
        Set<String> there = new TreeSet<>();
        try (Stream<Path> files = Files.list(Path.of("src/test/java"))) {
            files.map(file -> file.getFileName().toString()).filter(name -> name.endsWith("Test.java")).forEach(there::add);
        }
        CHECK.holds("told are " + told + ", there are " + there, told.equals(there));
    }
}
