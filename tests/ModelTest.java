import java.lang.reflect.Method;
import java.nio.charset.StandardCharsets;
import java.util.ArrayList;
import java.util.List;
import java.util.Random;

/** Long runs of drawn calls, each answered by the class and by the Model. Arguments: runs, first seed. */
public final class ModelTest {
    private static final String[] NAMES = {
        "piece", "piece", "piece", "pieceOf", "pieceOf", "pieceOf", "change", "change", "remake", "saying", "saying",
        "room", "roomOf", "ends", "anew", "state", "state", "text", "text", "feed", "rules", "year", "year", "on",
        "when", "gapFor", "roomFor", "itself", "least", "wave", "chains", "chains", "best", "ith", "ways", "line",
        "bars", "game", "play", "report", "report", "forget", "lone", "liar", "seed", "lot", "times", "prove", "row",
        "row", "alterRow", "judge", "judge", "sheet", "write", "write", "item", "goAll", "wouldBe", "shelf", "shelf",
        "taken", "taken", "act", "act", "act", "trace", "trace", "many", "many", "keep", "again"};

    private static Random random;
    /** Whether arguments of this run are often such as no range has. */
    private static boolean wild;
    private static final List<String> said = new ArrayList<>();
    private static int wrong = 0;

    public static void main(String[] args) throws Exception {
        int runs = args.length > 0 ? Integer.parseInt(args[0]) : 250;
        long seed = args.length > 1 ? Long.parseLong(args[1]) : 1;
        for (int run = 0; run < runs && wrong == 0; run++) {
            random = new Random(seed + run);
            oneRun();
        }
        System.out.println(wrong == 0 ? "class and model agree" : "class and model do not agree");
        if (wrong != 0) System.exit(1);
    }

    private static void oneRun() throws Exception {
        DominoKin x = new DominoKin();
        Model m = new Model();
        said.clear();
        wild = random.nextInt(5) == 0;
        if (random.nextInt(3) > 0) {
            for (int i = random.nextInt(6); i >= 0; i--) {
                call(x, m, "piece", 1 + random.nextInt(5), random.nextInt(60), random.nextInt(10), random.nextInt(6));
            }
            for (int i = 0; i < 4; i++) call(x, m, "room", random.nextInt(6), random.nextInt(2), random.nextInt(10));
            for (int i = 0; i < 6; i++) call(x, m, "saying", random.nextInt(8), random.nextInt(16));
        }
        // whole texts take many feeds: what is counted are calls, 512 at most
        while (said.size() < 440 && wrong == 0) {
            String name = NAMES[random.nextInt(NAMES.length)];
            if (name.equals("text")) text(x, m);
            else call(x, m, name, arguments(name));
        }
        if (wrong == 0) everything(x, m);
    }

    /** What is read without a change, so that a hidden difference shows. */
    private static void everything(DominoKin x, Model m) throws Exception {
        for (int i = 0; i < 7; i++) { call(x, m, "state", i); call(x, m, "many", i); }
    }

    private static void call(DominoKin x, Model m, String name, Object... args) throws Exception {
        Class<?>[] types = new Class<?>[args.length];
        StringBuilder row = new StringBuilder(name).append('(');
        for (int i = 0; i < args.length; i++) {
            types[i] = args[i] instanceof Long ? long.class : int.class;
            row.append(i > 0 ? ", " : "").append(args[i]);
        }
        Method ours = DominoKin.class.getMethod(name, types);
        Method theirs = Model.class.getMethod(name, types);
        int got = (Integer) ours.invoke(x, args);
        int due = (Integer) theirs.invoke(m, args);
        said.add(row.append(")").toString());
        if (got == due) return;
        wrong++;
        for (String s : said) System.out.println(s);
        System.out.println("  answered " + got + ", due is " + due);
    }

    private static int anywhere(int low, int high) {
        int[] all = Check.outside(low, high);
        return random.nextInt(4) == 0 ? random.nextInt() : all[random.nextInt(all.length)];
    }

    private static int near(int low, int high) {
        if (wild && random.nextInt(5) == 0) return anywhere(low, high);
        int r = random.nextInt(40);
        if (r == 0) return low - 1;
        if (r == 1) return high + 1;
        if (r == 2) return low;
        if (r == 3) return high;
        if (r == 4 && random.nextInt(4) == 0) return random.nextInt();
        return low + random.nextInt(high - low + 1);
    }

    /** Long plans are dear in the model, so they are rare. */
    private static int years(int low) {
        if (wild && random.nextInt(5) == 0) return anywhere(low, 4);
        int r = random.nextInt(60);
        if (r == 0) return 5;
        if (r == 1) return low - 1;
        if (r == 2) return 4;
        return r < 10 ? 3 : low + random.nextInt(3 - low);
    }

    private static Object[] arguments(String name) {
        int any = random.nextInt(3) == 0 ? random.nextInt() : random.nextInt(200) - 100;
        switch (name) {
            case "piece": return new Object[] {near(1, 5), near(0, 99), near(0, 9), near(0, 5)};
            case "pieceOf": return new Object[] {near(0, 5), near(0, 9)};
            case "change": {
                int what = near(1, 4);
                int[] most = {1, 99, 9, 5, 1, 1};
                return new Object[] {near(0, 5), what, near(0, what >= 0 && what < 6 ? most[what] : 9)};
            }
            case "remake": return new Object[] {near(0, 5), near(1, 5)};
            case "saying": return new Object[] {near(0, 15), near(0, 15)};
            case "room": return new Object[] {near(0, 5), near(0, 1), near(0, 9)};
            case "roomOf": return new Object[] {near(0, 5), near(0, 1)};
            case "ends": return new Object[] {random.nextInt(3) == 0 ? near(1, 16) : 10 + random.nextInt(7)};
            case "state": return new Object[] {near(0, 6)};
            case "feed": return new Object[] {random.nextInt(4) == 0 ? random.nextLong() : 7022364302206989665L, near(1, 8)};
            case "on": return new Object[] {near(0, 16)};
            case "when": case "gapFor": case "roomFor": case "itself": case "least": return new Object[] {near(0, 5)};
            case "wave": return new Object[] {near(0, 5), near(0, 16)};
            case "chains": return new Object[] {near(-1, 5)};
            case "best": case "ways": case "prove": return new Object[] {years(0)};
            case "ith": return new Object[] {years(0), near(0, 3)};
            case "line": case "bars": return new Object[] {years(0), random.nextInt(4) == 0 ? near(0, 63) : 1 << random.nextInt(6)};
            case "game": case "play": return new Object[] {years(1)};
            case "report": {
                int asked = near(0, 1);
                int least = near(0, asked == 1 ? 16 : 99);
                int most = random.nextInt(3) == 0 ? near(0, asked == 1 ? 16 : 99) : Math.min(asked == 1 ? 16 : 99, least + random.nextInt(40));
                return new Object[] {near(0, 15), asked, least, most};
            }
            case "lone": return new Object[] {near(0, 3)};
            case "seed": return new Object[] {any};
            case "times": return new Object[] {near(1, 40), random.nextInt(10) == 0 ? near(0, 999) : random.nextInt(60)};
            case "row": return new Object[] {near(0, 3), near(0, 2)};
            case "alterRow": return new Object[] {near(0, 3), near(0, 2), random.nextInt(3) == 0 ? any : random.nextInt(8)};
            case "sheet": return new Object[] {near(0, 3), random.nextInt(3) == 0 ? 0 : near(-1, 4), random.nextInt(4) == 0 ? near(-1, 40) : random.nextInt(12)};
            case "write": return new Object[] {near(0, 3), near(0, 8), random.nextInt(3) == 0 ? any : random.nextInt(8)};
            case "item": return new Object[] {near(0, 3), near(0, 4), near(0, 8)};
            case "goAll": return new Object[] {near(0, 3), near(0, 3), random.nextInt(4) == 0 ? near(0, 20) : random.nextInt(4)};
            case "wouldBe": return new Object[] {near(0, 3), near(0, 3), random.nextInt(4) == 0 ? near(0, 20) : random.nextInt(4)};
            case "shelf": return new Object[] {near(0, 3), random.nextInt(2) == 0 ? 0 : near(0, 2), near(0, 5)};
            case "taken": return new Object[] {near(0, 3), near(0, 14)};
            case "act": return new Object[] {near(0, 3), near(0, 3), any};
            case "trace": return new Object[] {near(0, 10)};
            case "many": return new Object[] {near(0, 6)};
            default: return new Object[0];
        }
    }

    // ---- texts

    private static void text(DominoKin x, Model m) throws Exception {
        StringBuilder t = new StringBuilder();
        int rules = random.nextInt(8) == 0 ? random.nextInt(11) : random.nextInt(4);
        for (int i = 0; i < rules; i++) {
            t.append(pick("piece", "aunt", "father", "eldest", "girl", "sailor")).append(' ');
            if (random.nextInt(rules > 5 ? 20 : 3) > 0) t.append("if ").append(cond(random.nextInt(3))).append(' ');
            t.append(pick("say", "stand", "hold")).append(pick(";", " ;", "; ", ";"));
        }
        if (random.nextInt(3) == 0) spoil(t);
        byte[] bytes = t.toString().getBytes(StandardCharsets.ISO_8859_1);
        for (int i = 0; i < bytes.length; i += 8) {
            long eight = 0;
            int n = Math.min(8, bytes.length - i);
            for (int j = 0; j < n; j++) eight |= (bytes[i + j] & 255L) << 8 * j;
            call(x, m, "feed", eight, n);
        }
        call(x, m, "rules");
        for (int k = 0; k < 6; k++) call(x, m, "pieceOf", k, 9);
    }

    private static void spoil(StringBuilder t) {
        int at = random.nextInt(t.length() + 1);
        switch (random.nextInt(4)) {
            case 0: t.insert(at, pick("(", ")", ";", "<", "7", "12345", " not ", " or ", " and ", "X", "\u00e9", "\t", " if ", " say ", " ")); break;
            case 1: t.setLength(at); break;
            case 2: if (at < t.length()) t.deleteCharAt(at); break;
            default: if (at < t.length()) t.setCharAt(at, "az09 ;()<=>A".charAt(random.nextInt(12))); break;
        }
    }

    private static String cond(int deep) {
        String one = pick("", "", "", "not ", "not not ") + (deep > 0 || random.nextInt(30) == 0
            ? "(" + cond(deep - 1 < -2 ? -2 : deep - 1) + ")" : value() + pick("<", "=", ">", " < ", " >") + value());
        switch (random.nextInt(6)) {
            case 0: return one + " and " + cond(0);
            case 1: return one + " or " + cond(0);
            default: return one;
        }
    }

    private static String value() {
        switch (random.nextInt(8)) {
            case 0: return "year";
            case 1: return "gap";
            case 2: return "word";
            case 3: return "number";
            case 4: return String.valueOf(random.nextInt(6));
            case 5: return String.valueOf(random.nextInt(60));
            case 6: return pick("0007", "9999", "3", "12", "00");
            default: return "lean";
        }
    }

    private static String pick(String... all) {
        return all[random.nextInt(all.length)];
    }
}
