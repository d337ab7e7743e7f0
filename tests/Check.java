import java.nio.charset.StandardCharsets;
import java.util.Arrays;

/** What the tests share; a test stands under it, so as to use it by short names. */
class Check {
    static final int BAD = -1, FULL = -2, NONE = -3, STATE = -4;
    static final int NOTHING = -11, OUTSIDE = -12, OTHER_SORT = -13, BELOW_ZERO = -14, PARTED = -15;
    static final int LEAST_INT = Integer.MIN_VALUE, MOST_INT = Integer.MAX_VALUE;

    private static int wrong = 0;
    private static int right = 0;
    private static String sentence = "";

    static void at(int promise) {
        sentence = "promise " + promise;
    }

    /** The sentence of the document that the answers due from here on belong to. */
    static void at(String words) {
        sentence = words;
    }

    static void due(int got, int want) {
        if (got == want) right++;
        else tell("answered " + got + ", due is " + want);
    }

    static void so(boolean holds, String what) {
        if (holds) right++;
        else tell("not so: " + what);
    }

    private static void tell(String what) {
        wrong++;
        System.out.println(sentence + " (lines" + lines() + "): " + what);
    }

    /** The lines of the test that led here, the innermost first: helpers are called from many places. */
    private static String lines() {
        StringBuilder all = new StringBuilder();
        for (StackTraceElement e : new Throwable().getStackTrace()) {
            boolean ours = e.getFileName() != null && e.getFileName().endsWith("Test.java");
            if (ours && !e.getMethodName().equals("main")) all.append(' ').append(e.getLineNumber());
        }
        return all.toString();
    }

    static void finish() {
        System.out.println(right + " passed, " + wrong + " failed");
        if (wrong != 0) System.exit(1);
    }

    /** A street of pieces, four numbers each. */
    static DominoKin of(int... fours) {
        DominoKin x = new DominoKin();
        for (int i = 0; i < fours.length; i += 4) x.piece(fours[i], fours[i + 1], fours[i + 2], fours[i + 3]);
        return x;
    }

    static void feedAll(DominoKin x, String text) {
        byte[] bytes = text.getBytes(StandardCharsets.ISO_8859_1);
        for (int i = 0; i < bytes.length; i += 8) {
            long eight = 0;
            int n = Math.min(8, bytes.length - i);
            for (int j = 0; j < n; j++) eight |= (bytes[i + j] & 255L) << 8 * j;
            x.feed(eight, n);
        }
    }

    static int text(DominoKin x, String rules) {
        feedAll(x, rules);
        return x.rules();
    }

    /** One year in which an act is told, by way of sheet 0. */
    static int tell(DominoKin x, int act) {
        x.sheet(0, 0, 1);
        x.write(0, 0, act);
        return x.goAll(0, 0, 1);
    }

    /**
     * Numbers that a range from low to high leaves out: the next on both sides, the farthest, and such as would come to
     * its ends if only some of their bits were looked at.
     */
    static int[] outside(int low, int high) {
        int[] all = {low - 1, high + 1, LEAST_INT, MOST_INT, low + 32, high - 32, low + 256, high - 256, low + 65536,
            high - 65536, LEAST_INT + low + 1};
        return Arrays.stream(all).filter(v -> v < low || v > high).toArray();
    }
}
