import java.io.IOException;
import java.nio.file.Files;
import java.nio.file.Path;
import java.util.Arrays;
import java.util.regex.Matcher;
import java.util.regex.Pattern;

/** The calls that README.md shows with their answers are made, so that it cannot tell what is not so. */
public final class ReadmeTest {
    private static final Pattern MAKING = Pattern.compile(
            "PacketStore store = new PacketStore\\((\\d+)\\);");
    private static final Pattern CALL = Pattern.compile(
            "store\\.(\\w+)\\(([^)]*)\\);\\s+// (\\S+).*");

    private ReadmeTest() {
    }

    public static void main(String[] args) throws IOException, ReflectiveOperationException {
        Checks checks = new Checks();
        PacketStore store = null;
        for (String line : Files.readAllLines(Path.of("README.md"))) {
            Matcher making = MAKING.matcher(line);
            Matcher call = CALL.matcher(line);
            if (making.matches()) {
                store = new PacketStore(Integer.parseInt(making.group(1)));
            } else if (call.matches()) {
                checks.due(line, answer(store, call.group(1), call.group(2)), told(call.group(3)));
            }
        }
        checks.endWithVerdict("ReadmeTest");
    }

    private static Object answer(PacketStore store, String name, String given)
            throws ReflectiveOperationException {
        String[] words = given.isEmpty() ? new String[0] : given.split(", ");
        Class<?>[] types = new Class<?>[words.length];
        Arrays.fill(types, int.class);
        Object[] values = Arrays.stream(words).map(ReadmeTest::value).toArray();
        return PacketStore.class.getMethod(name, types).invoke(store, values);
    }

    private static Object value(String word) {
        return word.startsWith("'") ? (int) word.charAt(1) : Integer.parseInt(word);
    }

    private static Object told(String word) {
        return switch (word) {
            case "true" -> true;
            case "false" -> false;
            case "NONE" -> -1;
            case "FULL" -> -2;
            default -> Integer.parseInt(word);
        };
    }
}
