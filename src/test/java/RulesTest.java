import java.lang.reflect.Field;
import java.lang.reflect.Method;
import java.lang.reflect.Modifier;
import java.nio.file.Files;
import java.nio.file.Path;
import java.util.List;
import java.util.Set;
import java.util.TreeSet;
import java.util.regex.Matcher;
import java.util.regex.Pattern;

/** What of LANGUAGE.md can be seen by words, and the face of the class. */
public final class RulesTest {
    private static final String FACE = "begin/0 best/3 called/2 cheapest/2 count/1 descriptor/5 detailed/2 enough/0 "
        + "fall/2 fastest/6 fault/1 feed/5 find/3 forged/1 formula/5 laid/1 lane/3 level/2 load/1 margin/1 mend/1 "
        + "mode/2 name/1 need/2 room/2 shown/1 state/1 step/2 told/1 trained/1 tries/1 wire/2 wish/1 would/1";

    public static void main(String[] args) throws Exception {
        face();
        nestedClasses();
        List<String> lines = Files.readAllLines(Path.of("src/main/java/ScreenTalk.java"));
        words(String.join("\n", lines));
        methodLengths(lines);
        Due.end();
    }

    private static void face() {
        TreeSet<String> found = new TreeSet<>();
        TreeSet<String> publicNames = new TreeSet<>();
        for (Method m : ScreenTalk.class.getDeclaredMethods()) {
            if (Modifier.isPublic(m.getModifiers())) {
                found.add(m.getName() + "/" + m.getParameterCount());
                publicNames.add(m.getName());
                Due.holds(m + " answers an int, isn't static", m.getReturnType() == int.class
                    && !Modifier.isStatic(m.getModifiers()));
            }
        }
        Due.holds("the face is " + found, found.equals(new TreeSet<>(Set.of(FACE.split(" ")))));
        for (Method m : ScreenTalk.class.getDeclaredMethods()) {
            boolean hidden = Modifier.isPrivate(m.getModifiers()) && !publicNames.contains(m.getName());
            Due.holds(m + " is public or private with a name of its own",
                Modifier.isPublic(m.getModifiers()) || hidden);
        }
        for (Field f : ScreenTalk.class.getDeclaredFields()) {
            Due.holds(f + " is private or NONE", Modifier.isPrivate(f.getModifiers()) || f.getName().equals("NONE"));
        }
        Due.due("constructors", ScreenTalk.class.getConstructors().length, 1);
        Due.due("all constructors", ScreenTalk.class.getDeclaredConstructors().length, 1);
        Due.holds("final", Modifier.isFinal(ScreenTalk.class.getModifiers()));
    }

    private static void nestedClasses() {
        Class<?>[] all = ScreenTalk.class.getDeclaredClasses();
        Due.holds("at most twelve classes", all.length < 12);
        for (Class<?> c : all) {
            Due.holds(c + " is static, not public", Modifier.isStatic(c.getModifiers())
                && !Modifier.isPublic(c.getModifiers()) && !Modifier.isProtected(c.getModifiers()));
            fields(c);
        }
        fields(ScreenTalk.class);
    }

    private static void fields(Class<?> c) {
        int own = 0;
        for (Field f : c.getDeclaredFields()) {
            if (Modifier.isStatic(f.getModifiers())) {
                Due.holds(f + " is final", Modifier.isFinal(f.getModifiers()));
            } else {
                own++;
            }
        }
        Due.holds(c + " has at most twenty fields", own <= 20);
        for (Method m : c.getDeclaredMethods()) {
            Due.holds(m + " has at most seven parameters", m.getParameterCount() <= 7);
        }
    }

    private static void words(String source) {
        String code = source.replaceAll("(?s)/\\*.*?\\*/", "").replaceAll("//[^\n]*", "");
        String[] forbidden = {"\\bthrows?\\b", "\\btry\\b", "\\bcatch\\b", "\\bsynchronized\\b", "\\bassert\\b", "->",
            "::", "Exact\\b", "\\bvar\\b", "\\bpackage\\b", "\\bMAX_VALUE\\b", "\\bMIN_VALUE\\b", "\\bprotected\\b",
            "\\bString\\b", "\\bdouble\\b", "\\bfloat\\b", "\\bstatic\\s*\\{"};
        for (String word : forbidden) {
            Due.holds("no " + word, !Pattern.compile(word).matcher(code).find());
        }
        Matcher imports = Pattern.compile("import ([^;]*);").matcher(code);
        while (imports.find()) {
            Due.holds("import " + imports.group(1), imports.group(1).equals("java.util.Arrays"));
        }
        Matcher library = Pattern.compile("\\b(Arrays|System|Math|Integer|Long)\\.(\\w+)").matcher(code);
        Set<String> allowed = Set.of("Arrays.fill", "System.arraycopy", "Math.max", "Math.min");
        while (library.find()) {
            Due.holds(library.group(), allowed.contains(library.group()));
        }
        for (char sign : source.toCharArray()) {
            if (sign > 126) {
                Due.holds("sign " + (int) sign, false);
            }
        }
    }

    private static void methodLengths(List<String> lines) {
        int start = -1;
        for (int i = 0; i < lines.size(); i++) {
            String line = lines.get(i);
            if (line.matches("( {4}| {8})\\S.*\\) \\{") && !line.contains("class ")) {
                start = i;
            }
            if (start >= 0 && line.matches("( {4}| {8})\\}")) {
                Due.holds("method at line " + (start + 1) + " is short", i - start < 60);
                start = -1;
            }
        }
    }
}
