import java.lang.management.ManagementFactory;
import java.lang.reflect.Constructor;
import java.lang.reflect.Field;
import java.lang.reflect.Method;
import java.lang.reflect.Modifier;
import java.nio.file.Files;
import java.nio.file.Path;
import java.util.Set;
import java.util.TreeSet;
import java.util.regex.Matcher;
import java.util.regex.Pattern;

/** What can be seen from outside of LANGUAGE.md: the face, words that may not stand in the source, the room used. */
public final class LanguageTest {
    private static final String FACE = "piece pieceOf change remake saying room roomOf ends anew state feed rules year on"
        + " when gapFor roomFor itself least wave chains best ith ways line bars game play report forget lone liar seed lot"
        + " times prove row alterRow judge sheet write item goAll wouldBe shelf taken act trace many keep again";
    private static int wrong = 0;

    private static void due(boolean so, String what) {
        if (so) return;
        wrong++;
        System.out.println("not so: " + what);
    }

    public static void main(String[] args) throws Exception {
        face();
        words();
        room();
        System.out.println(wrong == 0 ? "the language is kept" : wrong + " rules are broken");
        if (wrong != 0) System.exit(1);
    }

    private static void face() throws Exception {
        Set<String> due = new TreeSet<>(Set.of(FACE.split(" ")));
        Set<String> found = new TreeSet<>();
        for (Method m : DominoKin.class.getDeclaredMethods()) {
            if (Modifier.isPublic(m.getModifiers())) {
                found.add(m.getName());
                due(m.getReturnType() == int.class, m.getName() + " answers an int");
            } else {
                due(Modifier.isPrivate(m.getModifiers()), m.getName() + " is private");
                due(!due.contains(m.getName()), m.getName() + " has no public name");
            }
        }
        due(found.equals(due), "the public methods are " + due);
        for (Field f : DominoKin.class.getDeclaredFields()) {
            boolean constant = Set.of("BAD", "FULL", "NONE", "STATE").contains(f.getName());
            due(Modifier.isPublic(f.getModifiers()) == constant, f.getName() + " is public only as a constant");
            due(constant || Modifier.isPrivate(f.getModifiers()), f.getName() + " is private");
        }
        Constructor<?>[] makers = DominoKin.class.getDeclaredConstructors();
        due(makers.length == 1 && Modifier.isPublic(makers[0].getModifiers()), "one public constructor");
        due(Modifier.isFinal(DominoKin.class.getModifiers()), "the class is final");
        Class<?>[] inside = DominoKin.class.getDeclaredClasses();
        due(inside.length < 12, "at most twelve classes");
        sizes(DominoKin.class);
        for (Class<?> c : inside) {
            due(Modifier.isStatic(c.getModifiers()), c.getName() + " is static");
            sizes(c);
            for (Method m : c.getDeclaredMethods()) due(!due.contains(m.getName()), m.getName() + " has no public name");
        }
    }

    private static void sizes(Class<?> c) {
        int fields = 0;
        for (Field f : c.getDeclaredFields()) {
            boolean fixed = Modifier.isStatic(f.getModifiers());
            due(!fixed || Modifier.isFinal(f.getModifiers()), f.getName() + " is final");
            if (!fixed) fields++;
        }
        due(fields <= 20, c.getName() + " has some twenty fields");
        for (Method m : c.getDeclaredMethods()) due(m.getParameterCount() <= 7, m.getName() + " has few parameters");
    }

    private static void words() throws Exception {
        String source = Files.readString(Path.of("src/main/java/DominoKin.java"));
        source = source.replaceAll("(?s)/\\*.*?\\*/", " ").replaceAll("//[^\n]*", " ").replaceAll("\"[^\"\n]*\"", "\"\"");
        String[] banned = {"throw", "throws", "try", "catch", "finally", "synchronized", "assert", "record", "var",
            "Object", "Exception", "System\\.out", "nanoTime", "Random", "Thread", "package", "equals", "hashCode",
            "toString", "Exact", "->", "::", "@"};
        for (String b : banned) {
            Matcher m = Pattern.compile(b.matches("[A-Za-z]+") ? "\\b" + b + "\\b" : b).matcher(source);
            due(!m.find(), "no " + b);
        }
        Matcher imports = Pattern.compile("import ([^;]+);").matcher(source);
        while (imports.find()) due(imports.group(1).equals("java.util.Arrays"), "no import of " + imports.group(1));
        Matcher systems = Pattern.compile("System\\.(\\w+)").matcher(source);
        while (systems.find()) due(systems.group(1).equals("arraycopy"), "no System." + systems.group(1));
        due(source.chars().allMatch(c -> c == '\n' || c >= 32 && c < 127), "plain signs");
        shortMethods(source);
    }

    /** Methods of some sixty lines: those of a brace at their depth. */
    private static void shortMethods(String source) {
        int begun = -1;
        String[] lines = source.split("\n");
        for (int i = 0; i < lines.length; i++) {
            if (lines[i].matches(" {4}( {4})?[a-zA-Z].*\\) \\{")) begun = i;
            if (lines[i].matches(" {4}( {4})?\\}") && begun >= 0) {
                due(i - begun < 60, "short: " + lines[begun].trim());
                begun = -1;
            }
        }
    }

    /** Calls make nothing, so that 512 of them fit any room; a new object is small. */
    private static void room() {
        com.sun.management.ThreadMXBean threads = (com.sun.management.ThreadMXBean) ManagementFactory.getThreadMXBean();
        if (!threads.isThreadAllocatedMemorySupported()) return;
        DominoKin x = new DominoKin();
        round(x);
        long before = threads.getCurrentThreadAllocatedBytes();
        for (int i = 0; i < 5; i++) round(x);
        long used = threads.getCurrentThreadAllocatedBytes() - before;
        due(used < 2000, "calls make nothing, but took " + used + " bytes");
        before = threads.getCurrentThreadAllocatedBytes();
        new DominoKin();
        used = threads.getCurrentThreadAllocatedBytes() - before;
        due(used < 20000, "an object is small, but took " + used + " bytes");
    }

    private static void round(DominoKin x) {
        for (int i = 0; i < 6; i++) x.piece(1 + i % 5, 5 * i, i, i);
        x.feed(0x6820656365697020L, 8);
        x.feed(0x203b646c6fL, 5);
        x.rules();
        x.best(3);
        x.ith(3, 1);
        x.ways(3);
        x.line(3, 7);
        x.bars(3, 7);
        x.game(3);
        x.play(3);
        x.report(9, 0, 3, 30);
        x.lone(0);
        x.liar();
        x.times(40, 3);
        x.prove(3);
        x.judge();
        x.sheet(0, 0, 40);
        x.goAll(0, 0, 5);
        x.shelf(0, 0, 2);
        x.act(0, 3, 9);
        x.gapFor(0);
        x.roomFor(1);
        x.wave(0, 16);
        x.chains(-1);
        x.keep();
        x.again();
        x.anew();
    }
}
