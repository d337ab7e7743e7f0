import java.util.ArrayList;
import java.util.List;

/** All that the calls of an object let one see, a row each; to look so uses the object up. */
final class Probe {
    private final DominoKin x;
    private final List<String> rows = new ArrayList<>();

    private Probe(DominoKin x) {
        this.x = x;
    }

    static List<String> look(DominoKin x) {
        Probe p = new Probe(x);
        p.host();
        p.street();
        p.tape();
        p.note("again", x.again());
        p.street();
        return p.rows;
    }

    private void note(String what, int answer) {
        rows.add(what + ": " + answer);
    }

    /** What is not kept. */
    private void host() {
        for (int what = 4; what <= 6; what++) note("many " + what, x.many(what));
        for (int k = 0; k < 4; k++) {
            for (int what = 0; what < 3; what++) note("row " + k + " " + what, x.row(k, what));
        }
        note("judge", x.judge());
        for (int i = 0; i < 12; i++) note("trace " + i, x.trace(i));
        for (int sheet = 0; sheet < 4; sheet++) sheet(sheet);
        for (int shelf = 0; shelf < 4; shelf++) shelf(shelf);
    }

    private void sheet(int sheet) {
        for (int sort = 0; sort < 5; sort++) {
            int first = x.item(sheet, sort, 0);
            note("item " + sheet + " " + sort, first);
            if (first == Check.OTHER_SORT || first == Check.NOTHING) continue;
            for (int i = 1; i < 5; i++) note("item " + sheet + " " + i, x.item(sheet, sort, i));
            note("last item " + sheet, x.item(sheet, sort, 39));
        }
    }

    private void shelf(int shelf) {
        for (int as = 0; as < 6; as++) note("taken " + shelf + " " + as, x.taken(shelf, as));
        for (int as = 10; as < 15; as++) note("taken " + shelf + " " + as, x.taken(shelf, as));
    }

    /** What is kept. */
    private void street() {
        for (int what = 0; what < 4; what++) note("many " + what, x.many(what));
        for (int what = 0; what < 7; what++) note("state " + what, x.state(what));
        for (int k = 0; k < 6; k++) {
            for (int what = 0; what < 10; what++) note("piece " + k + " " + what, x.pieceOf(k, what));
        }
        for (int f = 0; f < 6; f++) {
            note("stair " + f, x.roomOf(f, 0));
            note("hand " + f, x.roomOf(f, 1));
        }
        reports();
        // reports and rules that come to the same so far may part by other sayings
        for (int year = 0; year < 16; year++) note("saying " + year, x.saying(year, 7 * year + 9 & 15));
        reports();
        wills();
        note("seed", x.seed(5));
    }

    private void reports() {
        for (int what = 0; what < 4; what++) note("lone " + what, x.lone(what));
        note("liar", x.liar());
    }

    private void wills() {
        for (int k = 0; k < 6; k++) note("will " + k, x.pieceOf(k, 9));
    }

    private void tape() {
        note("rules", x.rules());
        note("many 1", x.many(1));
        wills();
    }
}
