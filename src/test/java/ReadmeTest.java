import java.io.IOException;
import java.lang.reflect.Method;
import java.lang.reflect.Modifier;
import java.nio.file.Files;
import java.nio.file.Path;
import java.util.ArrayList;
import java.util.List;
import java.util.StringJoiner;
import java.util.TreeSet;
import java.util.regex.Matcher;
import java.util.regex.Pattern;

/** README.md tells every call of the face, and its example answers what it says there. */
final class ReadmeTest {
    private static final Pattern ROW = Pattern.compile("\\| `(\\w+) (\\w+)\\(([^)]*)\\)` \\|.*");
    private static final Pattern ANSWERED = Pattern.compile("(\\w+\\.\\w+\\(.*\\)); +// (true|false|-?\\d+)\\b.*");

    private static List<String> lines;
    private static final List<String> TRIED = new ArrayList<>();

    public static void main(String[] args) throws IOException {
        lines = Files.readAllLines(Path.of("README.md"));
        everyCallHasARow();
        border();
        keys();
        tape();
        everyAnswerWasTried();
        howToRunTheTests();
        Check.end();
    }

    private static void everyCallHasARow() {
        TreeSet<String> told = new TreeSet<>();
        for (String line : lines) {
            Matcher row = ROW.matcher(line);
            if (row.matches()) {
                String types = row.group(3).replace(", ", ",").replaceAll(" \\w+", "");
                told.add(row.group(1) + " " + row.group(2) + "(" + types + ")");
            }
        }
        TreeSet<String> due = new TreeSet<>();
        for (Method method : HomeComputer.class.getDeclaredMethods()) {
            if (Modifier.isPublic(method.getModifiers())) {
                due.add(method.getReturnType() + " " + method.getName() + "(" + typesOf(method) + ")");
            }
        }
        Check.same("the calls that README.md tells", told.toString(), due.toString());
    }

    private static String typesOf(Method method) {
        StringJoiner types = new StringJoiner(",");
        for (Class<?> type : method.getParameterTypes()) {
            types.add(type.getName());
        }
        return types.toString();
    }

    private static void border() {
        HomeComputer computer = new HomeComputer();
        tried("computer.load(2048, 0x3E05D3FE, 4)", computer.load(2048, 0x3E05D3FE, 4));
        computer.poke(2052, 118);
        tried("computer.set(21, 2048)", computer.set(21, 2048));
        tried("computer.step(3)", computer.step(3));
        tried("computer.look(2)", computer.look(2));
        tried("computer.frame()", computer.frame());
        tried("computer.stripe(10)", computer.stripe(10));
    }

    private static void keys() {
        HomeComputer typed = new HomeComputer();
        tried("typed.load(2048, 0x3EFEDBFE, 4)", typed.load(2048, 0x3EFEDBFE, 4));
        tried("typed.set(21, 2048)", typed.set(21, 2048));
        tried("typed.key(0, 2, true)", typed.key(0, 2, true));
        tried("typed.step(2)", typed.step(2));
        tried("typed.register(0)", typed.register(0));
    }

    private static void tape() {
        HomeComputer played = new HomeComputer();
        tried("played.pulse(10)", played.pulse(10));
        tried("played.pulse(300)", played.pulse(300));
        tried("played.pulse(0)", played.pulse(0));
        tried("played.tape(1)", played.tape(1));
        tried("played.step(3)", played.step(3));
        tried("played.look(4)", played.look(4));
        tried("played.look(7)", played.look(7));
    }

    private static void tried(String call, Object got) {
        TRIED.add(call + " " + got);
    }

    private static void everyAnswerWasTried() {
        List<String> told = new ArrayList<>();
        for (String line : lines) {
            Matcher answered = ANSWERED.matcher(line);
            if (answered.matches()) {
                told.add(answered.group(1) + " " + answered.group(2));
            }
        }
        Check.same("the example", String.join("\n  ", TRIED), String.join("\n  ", told));
    }

    private static void howToRunTheTests() {
        Check.yes("README.md says how to run the tests", lines.contains(".ci/run"));
        Check.yes(".ci/run can be run", Files.isExecutable(Path.of(".ci/run")));
    }
}
