import java.lang.reflect.Method;
import java.lang.reflect.Modifier;
import java.nio.file.Files;
import java.nio.file.Path;
import java.util.regex.Matcher;
import java.util.regex.Pattern;

/** The calls that README.md shows, in their order on one object: each answers what stands behind it. */
public final class ReadmeTest extends Check {
    private static final Pattern CALL = Pattern.compile("(?m)^x\\.(\\w+)\\(([^)]*)\\); +// (-?\\d+)");

    public static void main(String[] args) throws Exception {
        String readme = Files.readString(Path.of("README.md"));
        at("README.md, its example");
        DominoKin x = new DominoKin();
        Matcher calls = CALL.matcher(readme);
        int shown = 0;
        while (calls.find()) {
            at("README.md, " + calls.group());
            due(answer(x, calls.group(1), calls.group(2)), Integer.parseInt(calls.group(3)));
            shown++;
        }
        at("README.md, its example");
        so(shown == readme.split("\nx\\.").length - 1 && shown > 0, "each call that is shown has its answer");
        at("README.md, the calls");
        for (Method m : DominoKin.class.getDeclaredMethods()) {
            if (!Modifier.isPublic(m.getModifiers())) continue;
            so(readme.contains("`" + m.getName() + "`"), m.getName() + " is named");
        }
        finish();
    }

    private static int answer(DominoKin x, String name, String list) throws Exception {
        String[] parts = list.isEmpty() ? new String[0] : list.split(", ");
        Object[] args = new Object[parts.length];
        Class<?>[] types = new Class<?>[parts.length];
        for (int i = 0; i < parts.length; i++) {
            boolean isLong = parts[i].endsWith("L");
            types[i] = isLong ? long.class : int.class;
            if (isLong) args[i] = Long.valueOf(parts[i].substring(0, parts[i].length() - 1));
            else args[i] = Integer.valueOf(parts[i]);
        }
        return (Integer) DominoKin.class.getMethod(name, types).invoke(x, args);
    }
}
