import java.lang.reflect.Method;
import java.lang.reflect.Modifier;
import java.nio.file.Files;
import java.nio.file.Path;
import java.util.HashSet;
import java.util.Set;
import java.util.regex.Matcher;
import java.util.regex.Pattern;

/** The run that README.md tells: each call answers what stands behind it, and every call of the face is shown. */
public final class ReadmeTest {
    private static final Pattern LINE = Pattern.compile("x\\.((\\w+)\\([^)]*\\)); *// (-?\\d+)( .*)?");

    public static void main(String[] args) throws Exception {
        ScreenTalk x = new ScreenTalk();
        Set<String> shown = new HashSet<>();
        for (String line : Files.readAllLines(Path.of("README.md"))) {
            Matcher told = LINE.matcher(line);
            if (told.matches()) {
                shown.add(told.group(2));
                Due.due(told.group(1), Say.to(x, inDecimals(told.group(1))), Integer.parseInt(told.group(3)));
            } else {
                Due.holds("a line that isn't a call with its answer: " + line, !line.startsWith("x."));
            }
        }
        for (Method m : ScreenTalk.class.getDeclaredMethods()) {
            if (Modifier.isPublic(m.getModifiers())) {
                Due.holds(m.getName() + " is shown", shown.contains(m.getName()));
            }
        }
        Due.end();
    }

    private static String inDecimals(String call) {
        return Pattern.compile("0x(\\w+)").matcher(call)
            .replaceAll(hex -> Integer.toString(Integer.parseUnsignedInt(hex.group(1), 16)));
    }
}
