import java.io.IOException;
import java.lang.reflect.Method;
import java.lang.reflect.Modifier;
import java.nio.charset.StandardCharsets;
import java.nio.file.Files;
import java.nio.file.Path;
import java.util.ArrayList;
import java.util.Comparator;
import java.util.List;
import java.util.TreeSet;
import java.util.function.Consumer;
import java.util.regex.Matcher;
import java.util.regex.Pattern;
import java.util.stream.Stream;

/** What README.md says of the class and of its tests: its example and its commands are tried as they stand there. */
public final class ReadmeTest {
    private static final Pattern BLOCK = Pattern.compile("^```(\\w+)\\n(.*?)^```$", Pattern.MULTILINE | Pattern.DOTALL);
    private static final Pattern ROW = Pattern.compile("\\| `(\\w+Test)` \\| (.*) \\|");
    private static final String ALL_TESTS = ".ci/run\n";
    private static final int PROMISES = 49;

    private record Block(String language, String text) {
    }

    private final String readme;
    private final List<Block> blocks = new ArrayList<>();

    private ReadmeTest(String readme) {
        this.readme = readme;
        Matcher matcher = BLOCK.matcher(readme);
        while (matcher.find()) {
            blocks.add(new Block(matcher.group(1), matcher.group(2)));
        }
    }

    public static void main(String[] args) throws IOException, InterruptedException {
        ReadmeTest test = new ReadmeTest(Files.readString(Path.of("README.md")));
        test.commands();
        test.calls();
        test.bars();
        test.refusals();
        test.tests();
        Check.end();
    }

    // ---- the example and the commands

    /** Runs each command in a copy of the project, beside what is shared, with the example saved as README.md has it. */
    private void commands() throws IOException, InterruptedException {
        Path folder = Files.createTempDirectory("readme");
        try {
            Path project = Files.createDirectory(folder.resolve("project"));
            Files.createSymbolicLink(folder.resolve("shared"), Path.of("../shared").toRealPath());
            copy(Path.of("src"), project);
            run(project);
        } finally {
            delete(folder);
        }
    }

    private void run(Path project) throws IOException, InterruptedException {
        int ran = 0;
        String printed = "";
        for (Block block : blocks) {
            if (block.language.equals("java")) {
                Files.writeString(project.resolve("Example.java"), block.text);
            } else if (block.language.equals("text")) {
                Check.same("the example", printed, block.text);
            } else if (block.text.equals(ALL_TESTS)) {
                Check.same("a script is " + ALL_TESTS.trim(), Files.isExecutable(Path.of(ALL_TESTS.trim())), true);
            } else {
                printed = shell(project, block.text);
                ran++;
            }
        }
        Check.same("blocks of commands that were run", ran, 3);
        Check.same("blocks", blocks.size(), 6);
    }

    private static String shell(Path project, String commands) throws IOException, InterruptedException {
        ProcessBuilder builder = new ProcessBuilder("sh", "-e", "-c", commands);
        Process process = builder.directory(project.toFile()).redirectErrorStream(true).start();
        String printed = new String(process.getInputStream().readAllBytes(), StandardCharsets.UTF_8);
        int code = process.waitFor();
        if (code != 0) {
            Check.tell("exit code " + code + " of\n" + commands + printed);
        }
        return printed;
    }

    private static void copy(Path from, Path to) throws IOException {
        try (Stream<Path> paths = Files.walk(from)) {
            for (Path path : paths.toList()) {
                Files.copy(path, to.resolve(path));
            }
        }
    }

    private static void delete(Path folder) throws IOException {
        try (Stream<Path> paths = Files.walk(folder)) {
            for (Path path : paths.sorted(Comparator.reverseOrder()).toList()) {
                Files.delete(path);
            }
        }
    }

    // ---- what it tells of calls

    private void calls() {
        for (Method method : Boringhead.class.getDeclaredMethods()) {
            boolean isTold = Pattern.compile("`" + method.getName() + "[`(]").matcher(readme).find();
            Check.same("tells of " + method.getName(), isTold || !Modifier.isPublic(method.getModifiers()), true);
        }
    }

    /** Each letter of the table bars a ring, and what the table says helps against it does. */
    private void bars() {
        helps('p', Scenes::fresh, x -> {
            x.deliver(1);
            x.pressure(x.lower(x.rings()));
        });
        helps('p', Scenes::fresh, x -> {
            x.deliver(1);
            x.pressure(x.upper(x.rings()));
        });
        helps('c', Scenes::boulders, ReadmeTest::changeWorn);
        helps('s', x -> x.pressure(100), x -> x.deliver(1));
        helps('m', x -> clayUntil(x, 1440 + 360), x -> x.lorries(1));
        helps('m', x -> clayUntil(x, 1440 + 1319), x -> x.lorries(1));
        helps('a', ReadmeTest::red, x -> {
            x.lift(0, false, 50);
            x.lift(0, true, 50);
            x.read(0);
        });
        helps('a', ReadmeTest::red, x -> {
            for (int ring = 0; ring < x.rings(); ring++) {
                x.grout(ring, x.lost(ring));
            }
            x.read(0);
        });
        Boringhead turned = Edge.made(Scenes::threeRings);
        Check.same("the same rotation", turned.bars(turned.rotation(2)), 'j');
        Check.same("another rotation", turned.bars(7), '-');
        Check.same("behind the last ring", Edge.made(Scenes::whole).bars(7), 'e');
        for (char letter : "epcsmja".toCharArray()) {
            Check.same("the table tells of " + letter, readme.contains("\n| `" + letter + "` | "), true);
        }
    }

    private static void helps(char letter, Consumer<Boringhead> scene, Consumer<Boringhead> help) {
        Boringhead x = Edge.made(scene);
        Check.same("bars", x.bars(7), letter);
        help.accept(x);
        Check.same("bars behind what helps against " + letter, x.bars(7), '-');
    }

    private static void changeWorn(Boringhead x) {
        for (int cutter = 0; cutter < 8; cutter++) {
            if (x.worn(cutter) >= 100) {
                x.change(cutter);
            }
        }
    }

    private static void clayUntil(Boringhead x, int minute) {
        Scenes.clay(x, 30);
        x.deliver(1);
        Scenes.waitUntil(x, minute);
    }

    /** A house above seven rings in clay, read. */
    private static void red(Boringhead x) {
        Scenes.clay(x, 7);
        x.house(3, 3, 0);
        x.read(0);
    }

    private void refusals() {
        Edge.refused("a number", Edge.ARGUMENT, Scenes::threeRings, x -> x.pressure(2001));
        Edge.refused("a letter", Edge.ARGUMENT, Scenes::threeRings, x -> x.first('x'));
        Edge.refused("a ring", Edge.INDEX, Scenes::threeRings, x -> x.lost(3));
        Edge.refused("a house", Edge.INDEX, Scenes::threeRings, x -> x.tilt(0));
        Edge.refused("a cutter", Edge.INDEX, Scenes::threeRings, x -> x.worn(8));
        Edge.refused("a ring at the place", Edge.UNSUPPORTED, Scenes::threeRings, x -> x.water(2, 9, 1));
        Edge.refused("a bar", Edge.UNSUPPORTED, Scenes::threeRings, x -> x.advance(0));
        Edge.refused("no worn cutter", Edge.UNSUPPORTED, Scenes::fresh, x -> x.change(0));
        Edge.refused("grout that doesn't fit", Edge.UNSUPPORTED, Scenes::threeRings, x -> x.grout(0, 145));
        Edge.refused("no room", Edge.UNSUPPORTED, Scenes::threeRings, x -> x.deliver(4));
        Edge.refused("night", Edge.UNSUPPORTED, Scenes::threeRings, x -> x.lorries(1));
        Edge.refused("an empty pit", Edge.UNSUPPORTED, x -> Scenes.waitUntil(x, 400), x -> x.lorries(1));
        Edge.refused("no event", Edge.UNSUPPORTED, Scenes::threeRings, x -> x.notice(0));
        Edge.refused("the clock", Edge.STATE, x -> Scenes.waitUntil(x, 99999), x -> x.pause(1, 'w', '-'));
        Edge.refused("houses", Edge.STATE, EdgesOfHouses::eight, x -> x.house(0, 0, 0));
        Edge.refused("a share", Edge.ARITHMETIC, Scenes::fresh, Boringhead::groutShare);
        Edge.refused("a mean", Edge.ARITHMETIC, Scenes::fresh, Boringhead::meanMinutes);
        for (Class<?> type : List.of(Edge.ARGUMENT, Edge.INDEX, Edge.UNSUPPORTED, Edge.STATE, Edge.ARITHMETIC)) {
            Check.same("the table tells of " + type, readme.contains("\n| `" + type.getSimpleName() + "` | "), true);
        }
    }

    // ---- what it tells of the tests

    private void tests() throws IOException {
        TreeSet<String> told = new TreeSet<>();
        int next = 1;
        for (String line : readme.split("\n")) {
            Matcher row = ROW.matcher(line);
            if (row.matches()) {
                told.add(row.group(1));
                next = behind(next, row.group(2));
            }
        }
        Check.same("the promises of the first tests", next, PROMISES + 1);
        TreeSet<String> there = new TreeSet<>();
        try (Stream<Path> paths = Files.list(Path.of("src/test/java"))) {
            paths.map(path -> path.getFileName().toString().replace(".java", "")).filter(name -> name.endsWith("Test"))
                    .forEach(there::add);
        }
        Check.same("the tests in the table", told.toString(), there.toString());
    }

    /** The first promise behind those of a row, which begins with the one that is next, or tells of others again. */
    private static int behind(int next, String promises) {
        Matcher matcher = Pattern.compile("(\\d+) to (\\d+)").matcher(promises);
        boolean isNext = matcher.matches() && Integer.parseInt(matcher.group(1)) == next;
        return isNext ? Integer.parseInt(matcher.group(2)) + 1 : next;
    }
}
