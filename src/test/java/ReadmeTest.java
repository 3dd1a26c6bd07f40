import java.io.IOException;
import java.lang.reflect.Method;
import java.lang.reflect.Modifier;
import java.nio.file.Files;
import java.nio.file.Path;
import java.util.ArrayList;
import java.util.Comparator;
import java.util.List;
import java.util.regex.Matcher;
import java.util.regex.Pattern;
import java.util.stream.Stream;

/**
 * What README.md says works as it is written: its programs are put into a copy of the checkout, its commands are run
 * there in their order, and what they print is what it says. Only .ci/run isn't run, as this test is a part of it.
 */
public final class ReadmeTest {
    private static final Pattern BLOCK = Pattern.compile("(?ms)^```(\\w+)\n(.*?)^```$");
    private static final Pattern PROGRAM = Pattern.compile("public final class (\\w+)");
    private static final Pattern NAMED = Pattern.compile("`((?:\\.\\./shared|src|\\.ci)/[\\w./]+|[A-Z]\\w+\\.md)`");
    private static final Pattern CALLS = Pattern.compile("(?m)^\\| (`.*?) \\|");
    private static final String OWN_RUN = ".ci/run";

    private static void copySources(Path here, Path copy) throws IOException {
        List<Path> files = new ArrayList<>();
        try (Stream<Path> all = Files.walk(here.resolve("src"))) {
            all.filter(Files::isRegularFile).forEach(files::add);
        }
        for (Path file : files) {
            Path to = copy.resolve(here.relativize(file));
            Files.createDirectories(to.getParent());
            Files.copy(file, to);
        }
    }

    private static void remove(Path copy) throws IOException {
        List<Path> files;
        try (Stream<Path> all = Files.walk(copy)) {
            files = all.sorted(Comparator.reverseOrder()).toList();
        }
        for (Path file : files) {
            Files.delete(file);
        }
    }

    private static String run(Path here, Path copy, String command) throws IOException, InterruptedException {
        if (command.equals(OWN_RUN)) {
            Check.yes(OWN_RUN + " can be run", Files.isExecutable(here.resolve(OWN_RUN)));
            return "";
        }
        Path printed = copy.resolve("printed");
        Process process = new ProcessBuilder("bash", "-c", command).directory(copy.toFile())
            .redirectErrorStream(true).redirectOutput(printed.toFile()).start();
        int code = process.waitFor();
        String text = Files.readString(printed);
        Check.due(command + " ends well, printed " + text, code, 0);
        return text;
    }

    private static void blocks(Path here, Path copy, String page) throws IOException, InterruptedException {
        String printed = "";
        int programs = 0;
        int commands = 0;
        int prints = 0;
        Matcher block = BLOCK.matcher(page);
        while (block.find()) {
            String text = block.group(2);
            switch (block.group(1)) {
                case "java" -> {
                    Matcher program = PROGRAM.matcher(text);
                    Check.yes("a whole program", program.find());
                    Check.yes("its name is told", page.contains("`" + program.group(1) + ".java`"));
                    Files.writeString(copy.resolve(program.group(1) + ".java"), text);
                    programs++;
                }
                case "sh" -> {
                    for (String command : text.strip().split("\n")) {
                        printed = run(here, copy, command);
                        commands++;
                    }
                }
                default -> {
                    Check.yes("what it prints, not " + printed, printed.equals(text));
                    prints++;
                }
            }
        }
        Check.yes("a program, what it prints, commands", programs > 0 && prints > 0 && commands > 3);
        Check.yes("how the tests are run", page.contains("```sh\n" + OWN_RUN + "\n```"));
    }

    private static void namedFiles(Path here, String page) {
        Matcher named = NAMED.matcher(page);
        while (named.find()) {
            Check.yes("there is " + named.group(1), Files.exists(here.resolve(named.group(1))));
        }
    }

    /** The table tells every call of the face, and none that isn't one. */
    private static void calls(String page) {
        List<String> told = new ArrayList<>();
        Matcher line = CALLS.matcher(page);
        while (line.find()) {
            told.addAll(List.of(line.group(1).replace("`", "").split(", ")));
        }
        List<String> face = new ArrayList<>();
        for (Method method : SmokeTubes.class.getDeclaredMethods()) {
            if (Modifier.isPublic(method.getModifiers())) {
                face.add(method.getName());
            }
        }
        told.sort(null);
        face.sort(null);
        Check.yes("the table of calls: " + told, told.equals(face));
    }

    public static void main(String[] args) throws IOException, InterruptedException {
        Path here = Path.of(args.length > 0 ? args[0] : ".").toRealPath();
        String page = Files.readString(here.resolve("README.md"));
        namedFiles(here, page);
        calls(page);
        Path room = Files.createTempDirectory("readme");
        try {
            Files.createSymbolicLink(room.resolve("shared"), here.resolve("../shared").toRealPath());
            Path copy = Files.createDirectory(room.resolve("main"));
            copySources(here, copy);
            blocks(here, copy, page);
        } finally {
            remove(room);
        }
        Check.end("ReadmeTest");
    }
}
