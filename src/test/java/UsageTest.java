import java.lang.reflect.Method;
import java.nio.file.Files;
import java.nio.file.Path;
import java.util.List;

/** The session of README.md: each of its lines must hold. */
public final class UsageTest {
    private UsageTest() {
    }

    public static void main(String[] args) throws Exception {
        String home = args.length > 0 ? args[0] : ".";
        List<String> lines = Files.readAllLines(Path.of(home, "README.md"));
        int begin = lines.indexOf("```text") + 1;
        PutBack x = new PutBack();
        for (int i = begin; begin > 0 && i < lines.size() && !lines.get(i).equals("```"); i++) {
            follow(x, lines.get(i));
        }
        Calls.finish("UsageTest");
    }

    private static void follow(PutBack x, String line) throws Exception {
        if (line.startsWith("tape ")) {
            Calls.tape(x, line.substring(5));
        } else if (line.startsWith("slot ")) {
            Calls.due(line, Calls.read(x, line.charAt(5) - '0'), line.substring(9));
        } else {
            String[] sides = line.split(" -> ");
            Calls.due(line, String.valueOf(answer(x, sides[0])), sides[1]);
        }
    }

    /** A call as it is written: its name, and numbers between ( and ). */
    private static Object answer(PutBack x, String call) throws Exception {
        int opening = call.indexOf('(');
        String within = call.substring(opening + 1, call.length() - 1);
        String[] numbers = within.isEmpty() ? new String[0] : within.split(", ");
        Object[] told = new Object[numbers.length];
        for (int i = 0; i < told.length; i++) {
            told[i] = Integer.valueOf(numbers[i]);
        }
        return method(call.substring(0, opening)).invoke(x, told);
    }

    private static Method method(String name) {
        for (Method each : PutBack.class.getMethods()) {
            if (each.getName().equals(name) && each.getDeclaringClass() == PutBack.class) {
                return each;
            }
        }
        throw new IllegalArgumentException("no call " + name);
    }
}
