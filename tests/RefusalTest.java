import java.util.List;

/**
 * Every refusal: that it is given, which of several is, and that the call changed nothing. For the last, two streets
 * are made alike, one of them takes the call, and all that can be seen of both must be the same.
 */
public final class RefusalTest extends Check {
    private interface Street {
        DominoKin make();
    }

    private interface Call {
        int on(DominoKin x);
    }

    private static final Street NEW = DominoKin::new, FILLED = RefusalTest::filled, OVER = RefusalTest::over;
    private static final Street[] ALL = {NEW, FILLED, OVER};
    private static final String BLANKS = " ".repeat(190);

    public static void main(String[] args) {
        changesAreSeen();
        whatIsAskedChangesNothing();
        pieces();
        sayingsRoomsEnds();
        tapeAndRules();
        yearsOfTheRest();
        alone();
        plans();
        setsOfPieces();
        games();
        reports();
        lots();
        rows();
        sheets();
        items();
        actsOfSheets();
        actsOfSheetsBehindOneAnother();
        shelves();
        actsOfThings();
        restOfTheHost();
        finish();
    }

    // ---- streets

    /** As many of everything as there may be, in the midst of years, with another street kept. */
    private static DominoKin filled() {
        DominoKin x = new DominoKin();
        x.piece(1, 30, 3, 1);
        x.piece(2, 24, 2, 1);
        x.piece(4, 25, 2, 2);
        x.piece(5, 20, 9, 0);
        x.piece(3, 10, 5, 0);
        x.keep();
        x.piece(2, 20, 0, 5);
        for (int f = 0; f < 6; f++) {
            x.room(f, 0, f);
            x.room(f, 1, 9 - f);
        }
        for (int y = 0; y < 16; y++) x.saying(y, 5 * y + 6 & 15);
        text(x, "aunt hold;aunt say;sailor if year<3 say;sailor stand;girl if lean>40 hold;eldest hold;girl say;piece say;");
        for (int i = 0; i < 6; i++) x.report(i, i & 1, i == 1 ? 0 : 1, i % 2 == 1 ? 3 : 90);
        x.seed(77);
        x.lot();
        x.year();
        x.prove(4);
        fillHost(x);
        feedAll(x, "girl hold;" + BLANKS);
        return x;
    }

    private static void fillHost(DominoKin x) {
        x.sheet(0, 0, 40);
        x.sheet(1, 1, 3);
        x.sheet(3, 4, 0);
        int[] acts = {1, 6, 0, 7, 2};
        for (int i = 0; i < acts.length; i++) x.write(0, i, acts[i]);
        x.write(0, 39, 5);
        x.write(1, 2, -300);
        x.shelf(0, 0, 4);
        x.shelf(1, 1, 1);
        x.shelf(3, 0, 2);
        x.act(3, 3, 50);
    }

    private static DominoKin over() {
        DominoKin x = filled();
        x.ends(x.state(0));
        return x;
    }

    private static DominoKin allFallen() {
        DominoKin x = filled();
        for (int k = 0; k < 6; k++) x.change(k, 4, 1);
        return x;
    }

    /** "girl hold;" is its one rule then. */
    private static DominoKin filledButTape(String tape) {
        DominoKin x = filled();
        x.rules();
        feedAll(x, tape);
        return x;
    }

    // ---- how they are compared

    private static void refuses(Street street, int want, Call call) {
        DominoKin asked = street.make();
        due(call.on(asked), want);
        same(asked, street.make());
    }

    private static void refusesEverywhere(int want, Call call) {
        for (Street s : ALL) refuses(s, want, call);
    }

    private static void same(DominoKin asked, DominoKin twin) {
        String apart = difference(asked, twin);
        so(apart == null, "nothing is changed, but " + apart);
    }

    /** null if there is none. */
    private static String difference(DominoKin asked, DominoKin twin) {
        List<String> a = Probe.look(asked);
        List<String> b = Probe.look(twin);
        for (int i = 0; i < a.size() && i < b.size(); i++) {
            if (!a.get(i).equals(b.get(i))) return a.get(i) + " was " + b.get(i);
        }
        return a.size() == b.size() ? null : "there are more rows";
    }

    private static void changes(Call call) {
        DominoKin asked = filled();
        call.on(asked);
        so(difference(asked, filled()) != null, "a change is seen");
    }

    /** The comparison is worth something only if it sees what calls that are taken change. */
    private static void changesAreSeen() {
        at("the probe sees each change");
        Call[] calls = {x -> x.change(0, 1, 31), x -> x.change(5, 2, 1), x -> x.change(0, 3, 0), x -> x.change(0, 4, 1),
            x -> x.remake(0, 2), x -> x.saying(15, 0), x -> x.saying(0, 0), x -> x.room(5, 0, 9), x -> x.room(0, 1, 0),
            x -> x.ends(16), x -> x.anew(), x -> x.rules(), x -> x.year(), x -> x.forget(), x -> x.seed(78),
            x -> x.lot(), x -> x.prove(3), x -> x.alterRow(3, 2, 99), x -> x.alterRow(0, 0, 99), x -> x.sheet(3, -1, 0),
            x -> x.sheet(2, 0, 0), x -> x.sheet(3, 4, 1), x -> x.write(0, 39, 4), x -> x.write(0, 0, 2),
            x -> x.goAll(0, 0, 1), x -> x.shelf(0, 0, 3), x -> x.shelf(1, 2, 0), x -> x.shelf(2, 1, 3),
            x -> x.act(3, 2, 50), x -> x.act(2, 0, 0), x -> x.keep(), x -> x.again()};
        for (Call c : calls) changes(c);
        so(difference(of(1, 0, 0, 0), of()) != null, "a piece is seen");
        DominoKin reported = new DominoKin();
        reported.report(0, 0, 0, 99);
        so(difference(reported, new DominoKin()) != null, "a report is seen");
        DominoKin fed = new DominoKin();
        fed.feed(32, 1);
        so(difference(fed, new DominoKin()) != null, "a byte is seen");
        DominoKin kept = new DominoKin();
        kept.keep();
        so(difference(kept, new DominoKin()) != null, "what is kept is seen");
    }

    private static void whatIsAskedChangesNothing() {
        at("3: what is asked changes nothing, if not told");
        Call[] calls = {x -> x.on(16), x -> x.when(5), x -> x.gapFor(0), x -> x.gapFor(3), x -> x.gapFor(5),
            x -> x.roomFor(0), x -> x.roomFor(3), x -> x.roomFor(5), x -> x.itself(2), x -> x.itself(5), x -> x.least(2),
            x -> x.wave(0, 16), x -> x.wave(5, 0), x -> x.chains(-1), x -> x.chains(0), x -> x.best(4),
            x -> x.ith(4, 3), x -> x.ways(4), x -> x.line(4, 63), x -> x.line(4, 0), x -> x.bars(4, 63), x -> x.game(4),
            x -> x.play(4), x -> x.lone(0), x -> x.lone(3), x -> x.liar(), x -> x.times(40, 3), x -> x.row(0, 0),
            x -> x.judge(), x -> x.item(0, 0, 0), x -> x.wouldBe(0, 0, 3), x -> x.taken(0, 0), x -> x.trace(0),
            x -> x.many(0), x -> x.state(6), x -> x.roomOf(0, 0), x -> x.pieceOf(0, 9)};
        for (Call c : calls) {
            for (Street s : ALL) {
                DominoKin asked = s.make();
                c.on(asked);
                same(asked, s.make());
            }
        }
    }

    // ---- the street, pieces

    private static void pieces() {
        at("2 piece: BAD; FULL");
        for (int v : outside(1, 5)) refusesEverywhere(BAD, x -> x.piece(v, 0, 0, 0));
        for (int v : outside(0, 99)) refusesEverywhere(BAD, x -> x.piece(1, v, 0, 0));
        for (int v : outside(0, 9)) refusesEverywhere(BAD, x -> x.piece(1, 0, v, 0));
        for (int v : outside(0, 5)) refusesEverywhere(BAD, x -> x.piece(1, 0, 0, v));
        refuses(FILLED, FULL, x -> x.piece(1, 0, 0, 0));
        refuses(OVER, FULL, x -> x.piece(5, 99, 9, 5));

        at("3 pieceOf: BAD");
        for (int k : outside(0, 5)) refusesEverywhere(BAD, x -> x.pieceOf(k, 0));
        for (int what : outside(0, 9)) refusesEverywhere(BAD, x -> x.pieceOf(0, what));
        refuses(NEW, BAD, x -> x.pieceOf(0, 0));

        at("4 change: BAD");
        int[] most = {0, 99, 9, 5, 1};
        for (int what = 1; what <= 4; what++) {
            int w = what;
            for (int k : outside(0, 5)) refusesEverywhere(BAD, x -> x.change(k, w, 0));
            for (int v : outside(0, most[w])) refusesEverywhere(BAD, x -> x.change(0, w, v));
            refuses(NEW, BAD, x -> x.change(0, w, 0));
        }
        for (int what : outside(1, 4)) refusesEverywhere(BAD, x -> x.change(0, what, 1));

        at("5 remake: BAD");
        for (int k : outside(0, 5)) refusesEverywhere(BAD, x -> x.remake(k, 1));
        for (int kind : outside(1, 5)) refusesEverywhere(BAD, x -> x.remake(0, kind));
        refuses(NEW, BAD, x -> x.remake(0, 1));
    }

    private static void sayingsRoomsEnds() {
        at("6 saying: BAD");
        for (int v : outside(0, 15)) {
            refusesEverywhere(BAD, x -> x.saying(v, 1));
            refusesEverywhere(BAD, x -> x.saying(1, v));
        }
        at("7 room: BAD");
        for (int f : outside(0, 5)) refusesEverywhere(BAD, x -> x.room(f, 0, 1));
        for (int what : outside(0, 1)) refusesEverywhere(BAD, x -> x.room(1, what, 5));
        for (int v : outside(0, 9)) {
            refusesEverywhere(BAD, x -> x.room(1, 0, v));
            refusesEverywhere(BAD, x -> x.room(1, 1, v));
        }
        at("8 roomOf: BAD");
        for (int f : outside(0, 5)) refusesEverywhere(BAD, x -> x.roomOf(f, 1));
        for (int what : outside(0, 1)) refusesEverywhere(BAD, x -> x.roomOf(0, what));
        at("9 ends: BAD; STATE");
        for (int v : outside(1, 16)) refusesEverywhere(BAD, x -> x.ends(v));
        refuses(FILLED, STATE, x -> x.ends(1));
        refuses(OVER, STATE, x -> x.ends(1));
        at("11 state: BAD");
        for (int what : outside(0, 6)) refusesEverywhere(BAD, x -> x.state(what));
    }

    // ---- the rules

    private static void tapeAndRules() {
        at("12 feed: BAD; FULL");
        // 200 bytes are there in the filled ones: BAD goes first
        for (int n : outside(1, 8)) refusesEverywhere(BAD, x -> x.feed(-1, n));
        for (int n = 1; n <= 8; n++) {
            int bytes = n;
            refuses(FILLED, FULL, x -> x.feed(-1, bytes));
        }
        for (int n = 2; n <= 8; n++) {
            int bytes = n;
            // one byte more would find room
            refuses(() -> filledButTape(BLANKS + "aunt say;"), FULL, x -> x.feed(-1, bytes));
        }
        at("13 rules: a fault changes nothing but that the tape is used up");
        String[] faulty = {"c", "aunt say", "aunt say;aunt", "piece hold;piece stand;x", "piece if 1=1 hold;piece if"};
        int[] faults = {0, 8, 13, 23, 26};
        for (int i = 0; i < faulty.length; i++) {
            DominoKin asked = filledButTape(faulty[i]);
            due(asked.rules(), -100 - faults[i]);
            due(asked.many(5), 0);
            same(asked, filledButTape(""));
        }
    }

    // ---- years; who falls

    private static void yearsOfTheRest() {
        at("14 year: STATE");
        refuses(OVER, STATE, DominoKin::year);
        at("15 on: BAD");
        for (int n : outside(0, 16)) refusesEverywhere(BAD, x -> x.on(n));
        at("16 to 18 when, gapFor, roomFor: BAD");
        for (int k : outside(0, 5)) {
            refusesEverywhere(BAD, x -> x.when(k));
            refusesEverywhere(BAD, x -> x.gapFor(k));
            refusesEverywhere(BAD, x -> x.roomFor(k));
        }
        refuses(NEW, BAD, x -> x.when(0));
        refuses(NEW, BAD, x -> x.gapFor(0));
        refuses(NEW, BAD, x -> x.roomFor(0));
        at("16 when: NONE");
        for (int k = 0; k < 6; k++) {
            int piece = k;
            refuses(OVER, NONE, x -> x.when(piece));
        }
        refuses(FILLED, NONE, x -> x.when(0));
    }

    private static void alone() {
        at("19 to 21 itself, least, wave: BAD");
        for (int k : outside(0, 5)) {
            refusesEverywhere(BAD, x -> x.itself(k));
            refusesEverywhere(BAD, x -> x.least(k));
            refusesEverywhere(BAD, x -> x.wave(k, 0));
        }
        refuses(NEW, BAD, x -> x.itself(0));
        refuses(NEW, BAD, x -> x.least(0));
        refuses(NEW, BAD, x -> x.wave(0, 0));
        for (int n : outside(0, 16)) refusesEverywhere(BAD, x -> x.wave(0, n));
        // whatever bits of the number come to, and though all are FALLEN
        for (int k : outside(0, 5)) {
            refuses(RefusalTest::allFallen, BAD, x -> x.when(k));
            refuses(RefusalTest::allFallen, BAD, x -> x.itself(k));
            refuses(RefusalTest::allFallen, BAD, x -> x.least(k));
            refuses(RefusalTest::allFallen, BAD, x -> x.wave(k, 0));
            refuses(RefusalTest::allFallen, BAD, x -> x.pieceOf(k, 4));
        }
        for (int what : outside(-1, 5)) refuses(RefusalTest::allFallen, BAD, x -> x.chains(what));
        at("19 itself: NONE");
        refuses(FILLED, NONE, x -> x.itself(0));
        refuses(OVER, NONE, x -> x.itself(2));
        at("20 least: NONE");
        refuses(FILLED, NONE, x -> x.least(0));
        at("22 chains: BAD, also no such PIECE");
        for (int what : outside(-1, 5)) refusesEverywhere(BAD, x -> x.chains(what));
        refuses(NEW, BAD, x -> x.chains(0));
        refuses(() -> of(1, 0, 0, 0, 1, 0, 0, 0), BAD, x -> x.chains(2));
    }

    // ---- plans

    private static void plans() {
        at("23 to 25, 37 best, ith, ways, prove: BAD");
        for (int n : outside(0, 4)) {
            refusesEverywhere(BAD, x -> x.best(n));
            refusesEverywhere(BAD, x -> x.ith(n, 0));
            refusesEverywhere(BAD, x -> x.ways(n));
            refusesEverywhere(BAD, x -> x.prove(n));
        }
        // a plan of 0 has not so many: BAD goes ahead of NONE
        for (int i : outside(0, 3)) {
            refusesEverywhere(BAD, x -> x.ith(4, i));
            refusesEverywhere(BAD, x -> x.ith(0, i));
        }
        at("24 ith: NONE");
        for (int n = 0; n <= 3; n++) {
            for (int i = n; i <= 3; i++) {
                int years = n, place = i;
                refusesEverywhere(NONE, x -> x.ith(years, place));
            }
        }
        for (int i = 0; i <= 3; i++) {
            int place = i;
            refuses(OVER, NONE, x -> x.ith(4, place));
        }
    }

    private static void setsOfPieces() {
        at("26, 27 line, bars: BAD");
        for (int n : outside(0, 4)) {
            refusesEverywhere(BAD, x -> x.line(n, 0));
            refusesEverywhere(BAD, x -> x.bars(n, 0));
        }
        for (int set : outside(0, 63)) {
            refusesEverywhere(BAD, x -> x.line(2, set));
            refusesEverywhere(BAD, x -> x.bars(2, set));
        }
        // a set of such as there are
        refuses(NEW, BAD, x -> x.line(0, 1));
        refuses(NEW, BAD, x -> x.bars(0, 1));
        refuses(() -> of(1, 0, 0, 0, 1, 0, 0, 0), BAD, x -> x.line(0, 4));
        refuses(() -> of(1, 0, 0, 0, 1, 0, 0, 0), BAD, x -> x.bars(0, 5));
        at("26 line: NONE");
        refuses(FILLED, NONE, x -> x.line(4, 1));
        refuses(FILLED, NONE, x -> x.line(0, 63));
        refuses(OVER, NONE, x -> x.line(4, 63));
        at("27 bars: NONE");
        refusesEverywhere(NONE, x -> x.bars(4, 0));
        refusesEverywhere(NONE, x -> x.bars(0, 0));
    }

    private static void games() {
        at("28, 29 game, play: BAD");
        for (int n : outside(1, 4)) {
            refusesEverywhere(BAD, x -> x.game(n));
            refusesEverywhere(BAD, x -> x.play(n));
        }
        at("29 play: NONE");
        for (int n = 1; n <= 4; n++) {
            int years = n;
            refuses(OVER, NONE, x -> x.play(years));
        }
    }

    // ---- strangers, lots

    private static void reports() {
        at("30 report: BAD, also MOST below LEAST; FULL");
        // there are six in the filled ones: BAD goes first
        for (int k : outside(0, 15)) refusesEverywhere(BAD, x -> x.report(k, 0, 0, 0));
        for (int asked : outside(0, 1)) refusesEverywhere(BAD, x -> x.report(0, asked, 0, 0));
        for (int asked = 0; asked <= 1; asked++) {
            int which = asked, most = asked == 0 ? 99 : 16;
            for (int v : outside(0, most)) {
                refusesEverywhere(BAD, x -> x.report(0, which, v, most));
                refusesEverywhere(BAD, x -> x.report(0, which, 0, v));
                refusesEverywhere(BAD, x -> x.report(0, which, v, v));
            }
            refusesEverywhere(BAD, x -> x.report(0, which, 1, 0));
            refusesEverywhere(BAD, x -> x.report(0, which, most, most - 1));
            refuses(FILLED, FULL, x -> x.report(0, which, 0, 0));
            refuses(OVER, FULL, x -> x.report(15, which, 0, most));
        }
        at("32 lone: BAD; NONE");
        for (int what : outside(0, 3)) {
            refusesEverywhere(BAD, x -> x.lone(what));
            refuses(RefusalTest::noneFits, BAD, x -> x.lone(what));
        }
        for (int what = 1; what <= 3; what++) {
            int which = what;
            refuses(RefusalTest::noneFits, NONE, x -> x.lone(which));
        }
        at("33 liar: NONE");
        refuses(NEW, NONE, DominoKin::liar);
        refuses(RefusalTest::noneFits, NONE, DominoKin::liar);
    }

    /** Nor without any one of the reports. */
    private static DominoKin noneFits() {
        DominoKin x = new DominoKin();
        for (int lean = 9; lean <= 27; lean += 9) x.report(0, 0, lean, lean);
        return x;
    }

    private static void lots() {
        at("35 lot: STATE");
        refuses(OVER, STATE, DominoKin::lot);
        at("36 times: BAD");
        for (int n : outside(1, 40)) refusesEverywhere(BAD, x -> x.times(n, 0));
        for (int v : outside(0, 999)) refusesEverywhere(BAD, x -> x.times(1, v));
    }

    // ---- rows

    private static void rows() {
        at("38, 39 row, alterRow: -9");
        for (int k : outside(0, 3)) {
            refusesEverywhere(-9, x -> x.row(k, 0));
            refusesEverywhere(-9, x -> x.alterRow(k, 0, 99));
        }
        for (int what : outside(0, 2)) {
            refusesEverywhere(-9, x -> x.row(0, what));
            refusesEverywhere(-9, x -> x.alterRow(0, what, 99));
        }
        refuses(NEW, -9, x -> x.row(0, 0));
        refuses(NEW, -9, x -> x.alterRow(0, 0, 0));
        refuses(RefusalTest::twoRows, -9, x -> x.row(2, 0));
        refuses(RefusalTest::twoRows, -9, x -> x.alterRow(2, 0, 0));
    }

    private static DominoKin twoRows() {
        DominoKin x = filled();
        x.prove(2);
        return x;
    }

    // ---- the host

    private static void sheets() {
        at("41 sheet: BAD: no such SHEET, sort, n above 40; -14");
        for (int sheet : outside(0, 3)) {
            refusesEverywhere(BAD, x -> x.sheet(sheet, 0, 1));
            refusesEverywhere(BAD, x -> x.sheet(sheet, -1, 1));
            refusesEverywhere(BAD, x -> x.sheet(sheet, 0, -1));
        }
        for (int sort : outside(-1, 4)) {
            refusesEverywhere(BAD, x -> x.sheet(0, sort, 1));
            refusesEverywhere(BAD, x -> x.sheet(0, sort, -1));
        }
        for (int sort = 0; sort < 5; sort++) {
            int which = sort;
            refusesEverywhere(BAD, x -> x.sheet(0, which, 41));
            refusesEverywhere(BAD, x -> x.sheet(0, which, MOST_INT));
            refusesEverywhere(BELOW_ZERO, x -> x.sheet(0, which, -1));
            refusesEverywhere(BELOW_ZERO, x -> x.sheet(0, which, LEAST_INT));
        }
    }

    private static void items() {
        at("42 write: BAD: no such SHEET; -11; -12");
        for (int sheet : outside(0, 3)) refusesEverywhere(BAD, x -> x.write(sheet, 0, 1));
        for (int i : outside(0, 39)) {
            refuses(FILLED, OUTSIDE, x -> x.write(0, i, 1));
            refusesEverywhere(NOTHING, x -> x.write(2, i, 1));
        }
        refuses(FILLED, OUTSIDE, x -> x.write(1, 3, 1));
        refuses(FILLED, OUTSIDE, x -> x.write(3, 0, 1));
        refuses(NEW, NOTHING, x -> x.write(0, 0, 1));

        at("43 item: BAD: no such SHEET, sort; -13; -11; -12");
        for (int sheet : outside(0, 3)) refusesEverywhere(BAD, x -> x.item(sheet, 0, 0));
        for (int sort : outside(0, 4)) {
            for (int sheet = 0; sheet < 4; sheet++) {
                int which = sheet;
                refusesEverywhere(BAD, x -> x.item(which, sort, 99));
            }
        }
        for (int i : outside(0, 39)) {
            refuses(FILLED, OUTSIDE, x -> x.item(0, 0, i));
            refuses(FILLED, OTHER_SORT, x -> x.item(0, 1, i));
            refusesEverywhere(NOTHING, x -> x.item(2, 0, i));
        }
        for (int sort = 1; sort < 5; sort++) {
            int which = sort;
            refuses(FILLED, OTHER_SORT, x -> x.item(0, which, 0));
            refuses(FILLED, NOTHING, x -> x.item(2, which, 0));
        }
        refuses(FILLED, OUTSIDE, x -> x.item(3, 4, 0));
    }

    private static void actsOfSheets() {
        at("44, 45 goAll, wouldBe: BAD: no such SHEET, n; -13; -11");
        for (int sheet : outside(0, 3)) {
            refusesEverywhere(BAD, x -> x.goAll(sheet, 0, 0));
            refusesEverywhere(BAD, x -> x.wouldBe(sheet, 0, 0));
        }
        for (int sheet = 0; sheet < 4; sheet++) {
            for (int n : outside(0, 20)) {
                int which = sheet;
                refusesEverywhere(BAD, x -> x.goAll(which, 0, n));
                refusesEverywhere(BAD, x -> x.wouldBe(which, 0, n));
            }
        }
        for (int n = 0; n <= 20; n += 20) {
            int items = n;
            for (int i : outside(0, 39)) {
                refusesEverywhere(NOTHING, x -> x.goAll(2, i, items));
                refusesEverywhere(NOTHING, x -> x.wouldBe(2, i, items));
                refuses(FILLED, OTHER_SORT, x -> x.goAll(1, i, items));
                refuses(FILLED, OTHER_SORT, x -> x.wouldBe(1, i, items));
                refuses(OVER, OTHER_SORT, x -> x.goAll(3, i, items));
                refuses(OVER, OTHER_SORT, x -> x.wouldBe(3, i, items));
            }
        }
        for (int i : outside(0, 39)) {
            for (int n = 1; n <= 20; n++) {
                int items = n;
                refuses(FILLED, OUTSIDE, x -> x.goAll(0, i, items));
                refuses(FILLED, OUTSIDE, x -> x.wouldBe(0, i, items));
                refuses(OVER, OUTSIDE, x -> x.wouldBe(0, i, items));
            }
        }
    }

    private static void actsOfSheetsBehindOneAnother() {
        at("45 wouldBe: then, by items, -12; STATE");
        // acts 1, 6, 0, then 7, which is none; places 5 to 38 are 0, and place 39 is 5
        refuses(FILLED, STATE, x -> x.wouldBe(0, 0, 4));
        refuses(FILLED, STATE, x -> x.wouldBe(0, 3, 20));
        refuses(FILLED, OUTSIDE, x -> x.wouldBe(0, 39, 2));
        refuses(FILLED, OUTSIDE, x -> x.wouldBe(0, 38, 20));
        // YEAR 2 of 12: ten more, and it would be OVER ahead of the eleventh
        refuses(FILLED, STATE, x -> x.wouldBe(0, 4, 11));
        refuses(FILLED, OUTSIDE, x -> x.wouldBe(0, 30, 11));
        refuses(FILLED, STATE, x -> x.wouldBe(0, 29, 12));
        refuses(OVER, STATE, x -> x.wouldBe(0, 0, 1));
        at("44 goAll: -12: what stood ahead was done");
        DominoKin asked = filled();
        due(asked.goAll(0, 38, 3), OUTSIDE);
        DominoKin twin = filled();
        twin.goAll(0, 38, 2);
        same(asked, twin);
    }

    private static void shelves() {
        at("46 shelf: BAD: no such SHELF, what, thing");
        for (int shelf : outside(0, 3)) {
            for (int what = 0; what < 3; what++) {
                int which = what;
                refusesEverywhere(BAD, x -> x.shelf(shelf, which, 0));
            }
        }
        for (int what : outside(0, 2)) refusesEverywhere(BAD, x -> x.shelf(0, what, 0));
        for (int n : outside(0, 5)) refusesEverywhere(BAD, x -> x.shelf(0, 0, n));
        for (int n : outside(0, 3)) refusesEverywhere(BAD, x -> x.shelf(0, 1, n));
        refuses(NEW, BAD, x -> x.shelf(0, 0, 0));

        at("47 taken: BAD: no such SHELF, as; -13; -11");
        for (int shelf : outside(0, 3)) refusesEverywhere(BAD, x -> x.taken(shelf, 0));
        for (int shelf = 0; shelf < 4; shelf++) {
            int which = shelf;
            for (int as : new int[] {-1, 6, 7, 8, 9, 15, LEAST_INT, MOST_INT}) refusesEverywhere(BAD, x -> x.taken(which, as));
        }
        for (int as : new int[] {0, 5, 10, 14}) refusesEverywhere(NOTHING, x -> x.taken(2, as));
        // an eldest, and a row of shorts
        for (int as : new int[] {1, 4, 5, 10, 14}) refuses(FILLED, OTHER_SORT, x -> x.taken(0, as));
        for (int as : new int[] {0, 5, 10, 12, 14}) refuses(FILLED, OTHER_SORT, x -> x.taken(1, as));
    }

    private static void actsOfThings() {
        at("48 act: 0, and no TRACE then");
        Call[] none = {x -> x.act(-1, 0, 1), x -> x.act(4, 0, 1), x -> x.act(LEAST_INT, 0, 1), x -> x.act(MOST_INT, 0, 1),
            x -> x.act(0, -1, 1), x -> x.act(0, 4, 1), x -> x.act(0, LEAST_INT, 1), x -> x.act(0, MOST_INT, 1),
            x -> x.act(1, 0, 1), x -> x.act(2, 0, 1)};
        for (Call c : none) {
            DominoKin asked = filled();
            due(c.on(asked), 0);
            due(asked.many(6), 0);
            due(asked.trace(0), NONE);
            DominoKin twin = filled();
            twin.act(2, 3, 9);
            same(asked, twin);
        }
        at("3: -15 is all that act() answers, and nothing but the trace is another");
        // the eldest has number 4, ROOM 0
        DominoKin asked = filled();
        due(asked.act(0, 2, 9), PARTED);
        due(asked.many(6), 1);
        DominoKin twin = filled();
        twin.change(4, 3, 1);
        twin.act(0, 2, 9);
        twin.change(4, 3, 0);
        same(asked, twin);
    }

    private static void restOfTheHost() {
        at("49 trace: NONE");
        // a girl turned: five bodies
        for (int i : outside(0, 4)) refuses(FILLED, NONE, x -> x.trace(i));
        refuses(NEW, NONE, x -> x.trace(0));
        at("50 many: BAD: another what");
        for (int what : outside(0, 6)) refusesEverywhere(BAD, x -> x.many(what));
        at("52 again: NONE: nothing is kept");
        refuses(NEW, NONE, DominoKin::again);
        refuses(RefusalTest::unkept, NONE, DominoKin::again);
    }

    private static DominoKin unkept() {
        return of(1, 0, 0, 0, 2, 20, 2, 1);
    }
}
