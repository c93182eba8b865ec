import java.io.IOException;
import java.lang.reflect.Method;
import java.lang.reflect.Modifier;
import java.nio.file.Files;
import java.nio.file.Path;
import java.util.List;
import java.util.stream.Stream;

/** What README.md says of the class and of its tests. */
public final class ReadmeTest {
    private static final Path README = Path.of("README.md");
    private static final Path TESTS = Path.of("src/test/java");

    public static void main(String[] args) throws IOException {
        Checks checks = new Checks("ReadmeTest");
        List<String> lines = Files.readAllLines(README);
        callsAreNamed(checks, lines);
        testsAreNamed(checks, lines);
        exampleAnswers(checks, lines);
        textExample(checks, lines);
        whatThrowsForTheState(checks);
        checks.end();
    }

    private static void callsAreNamed(Checks checks, List<String> lines) {
        for (Method method : MeterRooms.class.getDeclaredMethods()) {
            if (Modifier.isPublic(method.getModifiers())) {
                String row = "| `" + method.getName() + "(";
                checks.due("rows of the call " + method.getName(), 1, starting(lines, row));
            }
        }
    }

    private static void testsAreNamed(Checks checks, List<String> lines) throws IOException {
        try (Stream<Path> files = Files.list(TESTS)) {
            files.map(file -> file.getFileName().toString()).filter(name -> name.endsWith("Test.java"))
                    .map(name -> name.replace(".java", ""))
                    .forEach(name -> checks.due("rows of " + name, 1, starting(lines, "| `" + name + "` |")));
        }
    }

    private static void exampleAnswers(Checks checks, List<String> lines) {
        MeterRooms store = new MeterRooms();
        int cold = store.add(20, -200, -150);
        answer(checks, lines, "int cold = store.add(20, -200, -150);", cold);
        answer(checks, lines, "store.goods(cold, -160);", store.goods(cold, -160));
        answer(checks, lines, "int why = store.does(cold);", store.does(cold));
        answer(checks, lines, "int units = store.run(15);", store.run(15));
        answer(checks, lines, "int passed = store.about(4);", store.about(4));
        answer(checks, lines, "int back = store.undo();", store.undo());
    }

    /** The page has this call in a line, with its answer first behind the slashes. */
    private static void answer(Checks checks, List<String> lines, String call, int got) {
        String line = lines.stream().filter(l -> l.startsWith(call)).findFirst().orElse("no such line");
        String told = line.replaceFirst(".*// *(-?\\d+):.*", "$1");
        checks.same("the answer that the page tells of " + call, Integer.toString(got), told);
    }

    private static void textExample(Checks checks, List<String> lines) {
        String text = "Mr20-200-150o0m60";
        checks.due("lines with the text " + text, 1, starting(lines, "`" + text + "` is a room, its door open"));
        MeterRooms x = Checks.withText(text);
        checks.due("a text of the page is a store", MeterRooms.NONE, x.errorPosition());
        checks.due("commands of it that are left out", 0, x.load());
        checks.due("its rooms", 1, x.about(0));
        checks.due("its room's load", 20, x.room(0, 0));
        checks.due("its room's door is open", 1, x.room(0, 4));
        checks.due("its minutes", 60, x.about(1));
        for (String command : new String[] {"r20-200-150", "o0", "z0", "m60", "l0600"}) {
            checks.due("the command " + command, MeterRooms.NONE, Checks.withText("M" + command).errorPosition());
        }
    }

    private static void whatThrowsForTheState(Checks checks) {
        MeterRooms x = Scenes.store(1, 2, 3, 4, 5, 6);
        checks.refused("add of a seventh room", Checks.STATE, x, () -> x.add(1, 0, 1));
        checks.refused("load of a text that is no store", Checks.STATE, x, x::load);
        MeterRooms y = new MeterRooms();
        checks.refused("undo of nothing", Checks.STATE, y, y::undo);
        checks.refused("restore of an empty slot", Checks.STATE, y, () -> y.restore(0));
        MeterRooms z = Checks.withText("M".repeat(120));
        checks.refused("append to a full text", Checks.STATE, z, () -> z.append('r'));
    }

    private static long starting(List<String> lines, String start) {
        return lines.stream().filter(line -> line.startsWith(start)).count();
    }
}
