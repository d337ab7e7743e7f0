/** The edges that the promises 37 to 52 name: rows, sheets, shelves, acts of things, what is kept. */
public final class HostTest extends Check {
    public static void main(String[] args) {
        rowsOfFewerYears();
        rowsAltered();
        judgesEachPart();
        judgesActsAtTheirEdges();
        judgesTillItIsOver();
        sheetsOfAllSizes();
        sheetsAnew();
        bytesNarrowed();
        shortsNarrowed();
        intsAndLongs();
        booleansNarrowed();
        itemsAsLowAsRefusals();
        goesByNoItems();
        goesByWhatIsAnAct();
        goesTillItIsOver();
        goesTillOutside();
        goesTwentyItems();
        wouldBeByItems();
        shelvesHold();
        shelvesOfPiecesThatAreGone();
        shelvesOfRows();
        actsThatWrap();
        actsParted();
        partedByEachNumber();
        quotients();
        tracesOfLatest();
        manyOfMost();
        keepsAll();
        keepsTheLatest();
        keepsEachOfAll();
        keepsReports();
        keepsNotTheHost();
        afterManyCalls();
        finish();
    }

    /** A father who pays 4 now, and one in the next room who pays 8. */
    private static DominoKin twoFathers() {
        return of(2, 30, 0, 0, 2, 20, 4, 1);
    }

    private static void acts(DominoKin x, int sheet, int... acts) {
        x.sheet(sheet, 0, acts.length);
        for (int i = 0; i < acts.length; i++) x.write(sheet, i, acts[i]);
    }

    // ---- rows

    private static void rowsOfFewerYears() {
        at("37 prove: ROWS of n (0 to 4): how many; 38 row: -9: there is none such");
        DominoKin x = twoFathers();
        for (int n = 4; n >= 0; n--) {
            due(x.prove(n), n);
            due(x.many(4), n);
            for (int k = 0; k < 6; k++) {
                for (int what = 0; what < 3; what++) so((x.row(k, what) == -9) == (k >= n), "row " + k + " of " + n);
            }
        }
        at("37 prove: the PIECES that are FALLEN behind it, as a set; what it is WORTH");
        DominoKin y = twoFathers();
        y.prove(2);
        int[][] rows = {{1, 4, 1}, {2, 8, 3}};
        for (int k = 0; k < 2; k++) {
            for (int what = 0; what < 3; what++) due(y.row(k, what), rows[k][what]);
        }
        // who is FALLEN ahead of it is so behind it
        y.change(0, 4, 1);
        due(y.prove(1), 1);
        due(y.row(0, 2), 3);
        y.ends(1);
        y.year();
        due(y.prove(4), 0);
        due(y.many(4), 0);
    }

    private static void rowsAltered() {
        at("39 alterRow: it becomes v: what it was");
        DominoKin x = twoFathers();
        x.prove(4);
        for (int k = 0; k < 4; k++) {
            for (int what = 0; what < 3; what++) {
                int was = x.row(k, what);
                due(x.alterRow(k, what, LEAST_INT), was);
                due(x.row(k, what), LEAST_INT);
                due(x.alterRow(k, what, MOST_INT), LEAST_INT);
                due(x.alterRow(k, what, -9), MOST_INT);
                due(x.alterRow(k, what, was), -9);
            }
        }
        due(x.judge(), 0);
    }

    private static void judgesEachPart() {
        at("40 judge: 0 all is right; else the first ROW that isn't, and 1 more");
        for (int k = 0; k < 4; k++) {
            for (int what = 0; what < 3; what++) {
                for (int v : new int[] {-1, 77, LEAST_INT, MOST_INT}) {
                    DominoKin x = twoFathers();
                    x.prove(4);
                    x.alterRow(k, what, v);
                    due(x.judge(), k + 1);
                    // the first one counts
                    x.alterRow(3, 1, 99);
                    due(x.judge(), k + 1);
                }
            }
        }
        due(new DominoKin().judge(), 0);
        DominoKin x = twoFathers();
        x.prove(3);
        due(x.judge(), 0);
        // by 1 on both sides
        for (int k = 0; k < 3; k++) {
            for (int what = 1; what < 3; what++) {
                int was = x.row(k, what);
                x.alterRow(k, what, was + 1);
                due(x.judge(), k + 1);
                x.alterRow(k, what, was - 1);
                due(x.judge(), k + 1);
                x.alterRow(k, what, was);
            }
        }
        due(x.judge(), 0);
    }

    private static void judgesActsAtTheirEdges() {
        at("3: THE READER: right is one whose ACT is one");
        DominoKin x = of(1, 0, 0, 0, 1, 0, 0, 0);
        x.prove(1);
        int[] acts = {LEAST_INT, -1, 0, 1, 2, 3, MOST_INT}, judged = {1, 1, 0, 0, 0, 1, 1};
        for (int i = 0; i < acts.length; i++) {
            x.alterRow(0, 0, acts[i]);
            due(x.judge(), judged[i]);
        }
        // as many as there are by now
        x.alterRow(0, 0, 3);
        due(x.judge(), 1);
        x.piece(1, 0, 0, 0);
        due(x.judge(), 0);
    }

    private static void judgesTillItIsOver() {
        at("3: THE READER: if it isn't OVER");
        DominoKin x = sixYearsOfAunts();
        for (int end = 1; end <= 4; end++) {
            x.ends(end);
            due(x.judge(), end < 4 ? end + 1 : 0);
        }
        x.ends(1);
        x.year();
        due(x.judge(), 1);
        x.ends(5);
        due(x.judge(), 0);
    }

    private static DominoKin sixYearsOfAunts() {
        DominoKin x = of(1, 0, 0, 0);
        x.ends(6);
        x.prove(4);
        return x;
    }

    // ---- sheets

    private static void sheetsOfAllSizes() {
        at("41 sheet: a row of n (0 to 40) of a sort (0 to 4), all 0: 1; 42 write, 43 item: -12");
        int[] sizes = {0, 1, 2, 39, 40};
        for (int sheet = 0; sheet < 4; sheet++) {
            DominoKin x = new DominoKin();
            for (int sort = 0; sort < 5; sort++) {
                for (int n : sizes) {
                    due(x.sheet(sheet, sort, n), 1);
                    due(x.item(sheet, sort, n), OUTSIDE);
                    due(x.item(sheet, sort, -1), OUTSIDE);
                    due(x.write(sheet, n, 1), OUTSIDE);
                    due(x.write(sheet, -1, 1), OUTSIDE);
                    due(x.item(sheet, sort, n - 1), n == 0 ? OUTSIDE : 0);
                    due(x.write(sheet, n - 1, 1), n == 0 ? OUTSIDE : 1);
                    due(x.item(sheet, sort, n - 1), n == 0 ? OUTSIDE : 1);
                    due(x.item(sheet, sort, 0), n == 0 ? OUTSIDE : n == 1 ? 1 : 0);
                }
            }
        }
    }

    private static void sheetsAnew() {
        at("41 sheet: all 0, or missing (sort -1; n counts nothing then)");
        DominoKin x = new DominoKin();
        x.sheet(1, 2, 40);
        for (int i = 0; i < 40; i++) x.write(1, i, i + 1);
        x.sheet(1, 2, 40);
        for (int i = 0; i < 40; i++) due(x.item(1, 2, i), 0);
        for (int n : new int[] {LEAST_INT, -1, 0, 40, 41, MOST_INT}) {
            x.sheet(1, 2, 3);
            due(x.sheet(1, -1, n), 1);
            for (int sort = 0; sort < 5; sort++) due(x.item(1, sort, 0), NOTHING);
            due(x.write(1, 0, 0), NOTHING);
            due(x.goAll(1, 0, 0), NOTHING);
            due(x.wouldBe(1, 0, 0), NOTHING);
        }
        // a lesser row has none of what stood in the greater one
        x.sheet(1, 2, 40);
        x.write(1, 39, 7);
        x.sheet(1, 2, 1);
        due(x.item(1, 2, 39), OUTSIDE);
        x.sheet(1, 2, 40);
        due(x.item(1, 2, 39), 0);
        // each is by itself
        x.write(1, 0, 5);
        x.sheet(2, 2, 1);
        x.sheet(0, 2, 1);
        due(x.item(1, 2, 0), 5);
    }

    private static void written(int sort, int[] values, int[] narrowed) {
        DominoKin x = new DominoKin();
        x.sheet(0, sort, 1);
        for (int i = 0; i < values.length; i++) {
            due(x.write(0, 0, values[i]), 1);
            due(x.item(0, sort, 0), narrowed[i]);
        }
    }

    private static void bytesNarrowed() {
        at("42 write: narrowed to its sort: bytes");
        written(0, new int[] {127, 128, 255, 256, -128, -129, -1, MOST_INT, LEAST_INT},
            new int[] {127, -128, -1, 0, -128, 127, -1, -1, 0});
    }

    private static void shortsNarrowed() {
        at("42 write: narrowed to its sort: shorts");
        written(1, new int[] {32767, 32768, 65535, 65536, -32768, -32769, 128, MOST_INT, LEAST_INT},
            new int[] {32767, -32768, -1, 0, -32768, 32767, 128, -1, 0});
    }

    private static void intsAndLongs() {
        at("42 write, 43 item: ints; of longs the lowest 32 bits");
        int[] all = {0, -1, 65536, 32768, MOST_INT, LEAST_INT};
        written(2, all, all);
        written(3, all, all);
    }

    private static void booleansNarrowed() {
        at("42 write: booleans: whether it is not 0");
        written(4, new int[] {0, 1, -1, 2, 256, 65536, MOST_INT, LEAST_INT}, new int[] {0, 1, 1, 1, 1, 1, 1, 1});
    }

    private static void itemsAsLowAsRefusals() {
        at("43 item: an item may be as low as these, too");
        int[] low = {-1, -11, -12, -13, -14, -15};
        for (int sort = 0; sort < 4; sort++) written(sort, low, low);
    }

    // ---- acts of a sheet

    private static void goesByNoItems() {
        at("44, 45 goAll, wouldBe: n 0: no item is asked, whatever i is");
        DominoKin x = twoFathers();
        acts(x, 0, 1);
        x.sheet(1, 0, 0);
        for (int i : new int[] {0, 1, -1, LEAST_INT, MOST_INT}) {
            due(x.goAll(0, i, 0), 0);
            due(x.wouldBe(0, i, 0), 0);
            due(x.goAll(1, i, 0), 0);
            due(x.wouldBe(1, i, 0), 0);
            due(x.goAll(1, i, 1), OUTSIDE);
            due(x.wouldBe(1, i, 1), OUTSIDE);
        }
        due(x.state(0), 0);
    }

    private static void goesByWhatIsAnAct() {
        at("44 goAll: what is none is left out");
        int[] acts = {-128, -1, 0, 1, 2, 3, 127};
        boolean[] is = {false, false, true, true, true, false, false};
        for (int i = 0; i < acts.length; i++) {
            DominoKin x = of(1, 0, 0, 0, 1, 0, 0, 0);
            acts(x, 3, acts[i]);
            due(x.wouldBe(3, 0, 1), is[i] ? 0 : STATE);
            due(x.state(0), 0);
            due(x.goAll(3, 0, 1), 0);
            due(x.state(0), is[i] ? 1 : 0);
        }
        // as many acts as there are pieces and 1: none but 0 with no piece
        DominoKin none = new DominoKin();
        acts(none, 0, 0, 1);
        due(none.wouldBe(0, 0, 1), 0);
        due(none.wouldBe(0, 1, 1), STATE);
        due(none.goAll(0, 0, 2), 0);
        due(none.state(0), 1);
        DominoKin six = of(1, 0, 0, 0, 1, 0, 0, 0, 1, 0, 0, 0, 1, 0, 0, 0, 1, 0, 0, 0, 2, 40, 9, 0);
        acts(six, 0, 6, 7);
        due(six.wouldBe(0, 0, 1), 13);
        due(six.wouldBe(0, 0, 2), STATE);
        due(six.goAll(0, 0, 2), 13);
        due(six.state(0), 1);
    }

    private static void goesTillItIsOver() {
        at("44 goAll: or when it is OVER, is left out; 45 wouldBe: STATE: it would be OVER ahead of it");
        for (int end = 1; end <= 5; end++) {
            DominoKin x = of(1, 0, 0, 0);
            acts(x, 0, 0, 1, 0, 1, 0);
            x.ends(end);
            for (int n = 0; n <= 5; n++) due(x.wouldBe(0, 0, n), n <= end ? 0 : STATE);
            due(x.goAll(0, 0, 5), 0);
            due(x.state(0), end);
            due(x.goAll(0, 0, 5), 0);
            due(x.state(0), end);
            due(x.wouldBe(0, 0, 0), 0);
            due(x.wouldBe(0, 0, 1), STATE);
            // the place goes first
            due(x.wouldBe(0, 5, 1), OUTSIDE);
            due(x.goAll(0, 4, 2), OUTSIDE);
        }
    }

    private static void goesTillOutside() {
        at("44 goAll: -12: what stood ahead was done");
        DominoKin x = twoFathers();
        acts(x, 2, 1, 2, 0);
        due(x.goAll(2, 0, 4), OUTSIDE);
        due(x.state(0), 3);
        due(x.state(2), 12);
        due(x.state(4), 3);
        DominoKin y = twoFathers();
        acts(y, 2, 1, 2, 0);
        due(y.goAll(2, 1, 20), OUTSIDE);
        due(y.state(0), 2);
        due(y.state(2), 8);
        for (int i : new int[] {3, 4, -1, -3, LEAST_INT, MOST_INT}) {
            due(y.goAll(2, i, 20), OUTSIDE);
            due(y.state(0), 2);
        }
        due(y.goAll(2, 2, 1), 0);
        due(y.state(0), 3);
    }

    private static void goesTwentyItems() {
        at("44, 45 goAll, wouldBe: n (0 to 20) items, from item i on");
        DominoKin x = of(1, 0, 0, 0);
        text(x, "aunt hold;");
        x.ends(16);
        x.sheet(0, 0, 40);
        for (int i = 20; i < 40; i++) x.write(0, i, i < 24 ? 99 : 1);
        // 16 holds are WORTH 1 each, in as many years
        due(x.wouldBe(0, 24, 16), 16);
        due(x.wouldBe(0, 20, 20), STATE);
        due(x.wouldBe(0, 0, 16), 0);
        due(x.goAll(0, 20, 20), 16);
        due(x.state(0), 16);
        due(x.state(2), 16);
        due(x.goAll(0, 20, 20), 0);
        due(x.goAll(0, 21, 20), OUTSIDE);
        due(x.goAll(0, 20, 21), BAD);
    }

    private static void wouldBeByItems() {
        at("45 wouldBe: then, by items, -12; STATE");
        DominoKin x = twoFathers();
        acts(x, 0, 1, 3, 0);
        due(x.wouldBe(0, 0, 1), 4);
        // the second is no act, which comes ahead of the place outside
        due(x.wouldBe(0, 0, 20), STATE);
        due(x.wouldBe(0, 2, 2), OUTSIDE);
        x.ends(1);
        due(x.wouldBe(0, 2, 1), 0);
        // OVER behind one year, but the place of the second is outside
        due(x.wouldBe(0, 2, 2), OUTSIDE);
        due(x.wouldBe(0, 1, 2), STATE);
        due(x.state(0), 0);
        due(x.state(2), 0);
    }

    // ---- shelves

    private static void shelvesHold() {
        at("46 shelf: PIECE n (what 0), the row of SHEET n (1; nothing, if missing), nothing (2): 1; 47 taken");
        DominoKin x = of(1, 0, 0, 0, 1, 0, 0, 0, 1, 0, 0, 0, 1, 0, 0, 0, 1, 0, 0, 0, 1, 0, 0, 0);
        x.sheet(3, 0, 0);
        x.sheet(0, 4, 40);
        for (int shelf = 0; shelf < 4; shelf++) {
            due(x.taken(shelf, 0), NOTHING);
            for (int n = 0; n < 6; n++) {
                due(x.shelf(shelf, 0, n), 1);
                due(x.taken(shelf, 0), n);
                due(x.taken(shelf, 1), n);
            }
            due(x.shelf(shelf, 1, 3), 1);
            due(x.taken(shelf, 10), 0);
            due(x.shelf(shelf, 1, 0), 1);
            due(x.taken(shelf, 14), 40);
            due(x.shelf(shelf, 1, 1), 1);
            due(x.taken(shelf, 10), NOTHING);
            x.shelf(shelf, 0, 5);
            due(x.shelf(shelf, 2, LEAST_INT), 1);
            due(x.taken(shelf, 0), NOTHING);
            x.shelf(shelf, 0, shelf);
        }
        for (int shelf = 0; shelf < 4; shelf++) due(x.taken(shelf, 0), shelf);
    }

    private static void shelvesOfPiecesThatAreGone() {
        at("3: a PIECE (by its number; nothing, if there is no such one at the time)");
        DominoKin x = of(1, 0, 0, 0);
        x.keep();
        x.piece(5, 0, 0, 2);
        x.shelf(0, 0, 1);
        x.shelf(1, 0, 0);
        due(x.taken(0, 5), 1);
        x.again();
        due(x.taken(0, 5), NOTHING);
        due(x.taken(0, 10), NOTHING);
        due(x.act(0, 0, 5), 0);
        due(x.many(6), 0);
        due(x.taken(1, 1), 0);
        // another one of that number
        x.piece(2, 0, 0, 3);
        due(x.taken(0, 2), 1);
        due(x.taken(0, 5), OTHER_SORT);
        due(x.act(0, 0, 5), 49);
        x.remake(1, 3);
        due(x.taken(0, 3), 1);
    }

    private static void shelvesOfRows() {
        at("3: SHELVES hold a SHEET's row");
        DominoKin x = new DominoKin();
        for (int sort = 0; sort < 5; sort++) {
            x.sheet(2, sort, 7);
            x.shelf(1, 1, 2);
            for (int as = 10; as <= 14; as++) due(x.taken(1, as), as == 10 + sort ? 7 : OTHER_SORT);
            for (int as = 0; as <= 5; as++) due(x.taken(1, as), OTHER_SORT);
            x.sheet(2, 4 - sort, 3);
            due(x.taken(1, 10 + sort), 7);
            x.sheet(2, -1, 0);
            due(x.taken(1, 10 + sort), 7);
        }
    }

    // ---- acts of things

    private static DominoKin thing(int kind, int number, int room) {
        DominoKin x = new DominoKin();
        for (int k = 0; k < number; k++) x.piece(1, 0, 0, 0);
        x.piece(kind, 0, 0, room);
        x.shelf(0, 0, number);
        return x;
    }

    private static void actsThatWrap() {
        at("3: ACTS: ints that wrap");
        // 10 times the most int is -10; 214748365 * 10 is the least int and 2
        due(thing(2, 0, 0).act(0, 0, MOST_INT), -10);
        due(thing(2, 0, 0).act(0, 0, LEAST_INT), 0);
        due(thing(2, 0, 0).act(0, 0, 214748364), 2147483640);
        due(thing(2, 0, 0).act(0, 0, 214748365), -2147483646);
        due(thing(2, 3, 0).act(0, 0, -214748365), 2147483643);
        due(thing(1, 0, 0).act(0, 0, MOST_INT), -10 ^ 30);
        due(thing(3, 0, 0).act(0, 0, LEAST_INT), -140);
        // a father's taps: twice what wraps
        due(thing(2, 0, 5).act(0, 1, 214748364), (2147483640 + 15) * 2);
        due(thing(2, 0, 0).act(0, 1, 107374183), -2147483636);
        due(thing(5, 0, 0).act(0, 1, 214748365), 2147483646);
        // a girl's halves by 1, and 5
        due(thing(4, 3, 0).act(0, 2, MOST_INT), -2147483644);
        due(thing(4, 3, 0).act(0, 2, LEAST_INT), -2147483643);
        // the least int by -1 is itself
        due(thing(1, 5, 0).act(0, 2, LEAST_INT), LEAST_INT);
        due(thing(4, 5, 0).act(0, 2, LEAST_INT), -2147483643);
        due(thing(5, 5, 0).act(0, 2, LEAST_INT), -2147483643 + 45);
    }

    private static void actsParted() {
        at("3: 12 halves: -15 if that is 0; that is all that act() answers then");
        for (int kind = 1; kind <= 5; kind++) {
            for (int number = 4; number <= 5; number++) {
                DominoKin x = thing(kind, number, number - 4);
                for (int v : new int[] {0, 1, -1, MOST_INT, LEAST_INT}) {
                    due(x.act(0, 2, v), PARTED);
                    due(x.act(0, 3, v), PARTED);
                }
                // tips and taps don't part
                so(x.act(0, 0, 1000) != PARTED && x.many(6) > 0, "tips");
                so(x.act(0, 1, 1000) != PARTED && x.many(6) > 1, "taps");
            }
        }
        at("49 trace: of one parted by 0: what began");
        DominoKin eldest = thing(3, 4, 0);
        eldest.act(0, 3, 9);
        int[] ran = {51, 13, 30, 11, 50, 10, 12};
        due(eldest.many(6), 7);
        for (int i = 0; i < 7; i++) due(eldest.trace(i), ran[i]);
        due(eldest.trace(7), NONE);
        DominoKin sailor = thing(5, 4, 0);
        sailor.act(0, 3, 9);
        int[] sailed = {13, 60, 11, 10, 61, 40, 12};
        due(sailor.many(6), 7);
        for (int i = 0; i < 7; i++) due(sailor.trace(i), sailed[i]);
    }

    private static void partedByEachNumber() {
        at("3: 12 halves: x / (a - n + 4)");
        for (int number = 0; number < 6; number++) {
            for (int room = 0; room < 6; room++) {
                DominoKin x = thing(2, number, room);
                int by = room - number + 4;
                due(x.act(0, 2, 2520), by == 0 ? PARTED : 2520 / by);
                due(x.act(0, 0, 0), -number);
                due(x.act(0, 1, 0), (3 * room - number) * 2);
            }
        }
    }

    private static void quotients() {
        at("Terms: quotients are cut towards 0");
        DominoKin x = thing(1, 2, 0);
        int[] args = {-3, -2, -1, 0, 1, 2, 3}, halves = {-1, -1, 0, 0, 0, 1, 1};
        for (int i = 0; i < args.length; i++) due(x.act(0, 2, args[i]), halves[i]);
    }

    private static void tracesOfLatest() {
        at("3: THE TRACE: of the latest act()");
        DominoKin x = of(1, 0, 0, 0, 2, 0, 0, 0, 3, 0, 0, 0);
        x.shelf(0, 0, 0);
        x.shelf(1, 0, 1);
        x.shelf(2, 0, 2);
        x.act(0, 0, 1);
        due(x.many(6), 2);
        due(x.trace(0), 20);
        due(x.trace(1), 10);
        x.act(1, 0, 1);
        due(x.many(6), 1);
        due(x.trace(0), 10);
        due(x.trace(1), NONE);
        // the most bodies that one act has
        x.act(2, 3, 1);
        due(x.many(6), 11);
        int[] ran = {51, 13, 30, 11, 50, 10, 12, 30, 11, 50, 10};
        for (int i = 0; i < 11; i++) due(x.trace(i), ran[i]);
        for (int i : outside(0, 10)) due(x.trace(i), NONE);
        // nothing but an act alters it
        x.remake(2, 1);
        x.shelf(2, 2, 0);
        x.year();
        due(x.many(6), 11);
        due(x.trace(10), 10);
        at("48 act: no TRACE then");
        due(x.act(2, 0, 1), 0);
        due(x.many(6), 0);
        due(x.trace(0), NONE);
    }

    private static void manyOfMost() {
        at("50 many: as many as there may be");
        DominoKin x = of(2, 40, 0, 0, 2, 40, 0, 0, 2, 40, 0, 0, 2, 40, 0, 0, 2, 40, 0, 0, 3, 40, 0, 0);
        text(x, "girl say;".repeat(8));
        for (int k = 0; k < 6; k++) {
            due(x.many(2), k);
            x.change(k, 4, 1);
            x.report(0, 0, 0, 99);
        }
        x.prove(4);
        feedAll(x, " ".repeat(200));
        x.shelf(0, 0, 5);
        x.change(5, 3, 5);
        x.act(0, 3, 1);
        int[] most = {6, 8, 6, 6, 4, 200, 11};
        for (int what = 0; what <= 6; what++) due(x.many(what), most[what]);
    }

    // ---- kept

    private static void keepsAll() {
        at("51 keep: all but THE TAPE, ROWS, SHEETS, SHELVES, THE TRACE; 52 again: how many PIECES");
        // nothing at all may be kept
        DominoKin x = new DominoKin();
        due(x.again(), NONE);
        due(x.keep(), 1);
        for (int k = 0; k < 6; k++) x.piece(5, 90, 9, k);
        text(x, "piece hold;");
        for (int i = 0; i < 6; i++) x.report(0, 0, 9, 9);
        for (int y = 0; y < 16; y++) x.saying(y, 15);
        for (int f = 0; f < 6; f++) {
            x.room(f, 0, 9);
            x.room(f, 1, 9);
        }
        x.seed(5);
        x.ends(16);
        x.year();
        due(x.again(), 0);
        asNew(x);
        // and then six come to be again
        for (int k = 0; k < 6; k++) due(x.piece(1, k, 0, 0), k);
        due(x.state(4), 0);
        due(x.state(6), 15);
    }

    private static void asNew(DominoKin x) {
        int[] state = {0, 12, 0, 0, 0, 6, 0};
        for (int what = 0; what <= 6; what++) due(x.state(what), state[what]);
        for (int what = 0; what <= 3; what++) due(x.many(what), 0);
        for (int y = 0; y < 16; y++) due(x.saying(y, 6), 6);
        for (int f = 0; f < 6; f++) {
            due(x.roomOf(f, 0), 0);
            due(x.roomOf(f, 1), 0);
        }
        due(x.lone(0), 500);
        due(x.seed(1), 1);
        due(x.pieceOf(0, 0), BAD);
    }

    private static void keepsTheLatest() {
        at("52 again: what was kept latest (which stays)");
        DominoKin x = new DominoKin();
        for (int k = 0; k < 6; k++) {
            x.piece(1, 10 * k, 0, 0);
            x.keep();
        }
        for (int i = 0; i < 3; i++) {
            for (int k = 0; k < 6; k++) x.change(k, 1, 99);
            x.change(0, 4, 1);
            due(x.again(), 6);
            for (int k = 0; k < 6; k++) due(x.pieceOf(k, 1), 10 * k);
            due(x.state(4), 0);
        }
        // what is changed behind again isn't kept
        DominoKin y = of(1, 1, 0, 0);
        y.keep();
        y.again();
        y.change(0, 1, 50);
        due(y.again(), 1);
        due(y.pieceOf(0, 1), 1);
        y.change(0, 1, 50);
        y.keep();
        y.change(0, 1, 60);
        due(y.again(), 1);
        due(y.pieceOf(0, 1), 50);
    }

    private static void keepsEachOfAll() {
        at("51 keep: each of six PIECES, eight RULES, six REPORTS");
        DominoKin x = of(1, 0, 0, 0, 2, 1, 1, 1, 3, 2, 2, 2, 4, 3, 3, 3, 5, 4, 4, 4, 4, 5, 5, 5);
        text(x, "aunt stand;" + "aunt say;".repeat(6) + "girl stand;");
        for (int i = 0; i < 6; i++) x.report(i, 0, i, 90 + i);
        x.change(5, 4, 1);
        x.keep();
        int[] fit = new int[4];
        for (int what = 0; what < 4; what++) fit[what] = x.lone(what);
        for (int k = 0; k < 6; k++) {
            x.change(k, 1, 50);
            x.change(k, 2, 9);
            x.change(k, 3, 5 - k);
            x.change(k, 4, k == 5 ? 0 : 1);
            x.remake(k, 2);
        }
        text(x, "piece hold;");
        x.forget();
        for (int i = 0; i < 6; i++) x.report(0, 1, 16, 16);
        due(x.again(), 6);
        int[] kinds = {1, 2, 3, 4, 5, 4}, bears = {95, 30, 30, 44, 46, 40}, wills = {1, 0, 0, 1, 1, 1};
        for (int k = 0; k < 6; k++) {
            int[] now = {kinds[k], k, k, k, k == 5 ? 1 : 0};
            for (int what = 0; what < 5; what++) due(x.pieceOf(k, what), now[what]);
            due(x.pieceOf(k, 6), bears[k]);
            due(x.pieceOf(k, 9), wills[k]);
        }
        for (int what = 0; what < 4; what++) due(x.lone(what), fit[what]);
    }

    /** Six reports, of which the one told is wrong by one thing: by that its contents are seen. */
    private static void keepsReports() {
        at("51 keep: REPORTS, by what each says");
        for (int i = 0; i < 6; i++) {
            DominoKin x = new DominoKin();
            for (int r = 0; r < 6; r++) x.report(r == i ? 1 : 0, r == i ? 1 : 0, r == i ? 1 : 9, r == i ? 2 : 9);
            // of 9 at first nobody pays in YEAR 0 but fathers by wide gaps: 15 by 9 bears 14
            int fit = x.lone(0);
            due(fit, 1);
            x.keep();
            x.forget();
            for (int r = 0; r < 6; r++) x.report(2, 0, 0, 99);
            due(x.lone(0), 500);
            x.again();
            due(x.lone(0), 1);
            due(x.lone(1), 2);
            due(x.lone(2), 9);
            due(x.lone(3), 9);
            due(x.forget(), 6);
        }
    }

    private static void keepsNotTheHost() {
        at("51 keep: THE TAPE, ROWS, SHEETS, SHELVES, THE TRACE aren't kept");
        DominoKin x = of(2, 40, 0, 0, 1, 0, 0, 0);
        x.keep();
        feedAll(x, "girl say;");
        x.prove(3);
        acts(x, 1, 5, 6);
        x.shelf(0, 0, 1);
        x.shelf(1, 1, 1);
        x.act(0, 0, 2);
        due(x.again(), 2);
        due(x.many(5), 9);
        due(x.many(4), 3);
        due(x.many(6), 2);
        due(x.item(1, 0, 1), 6);
        due(x.taken(0, 1), 1);
        due(x.taken(1, 10), 2);
        due(x.rules(), 1);
        // nor are they taken back
        x.sheet(1, -1, 0);
        x.shelf(0, 2, 0);
        x.prove(0);
        x.act(0, 0, 0);
        due(x.again(), 2);
        due(x.many(5), 0);
        due(x.many(4), 0);
        due(x.many(6), 0);
        due(x.many(1), 0);
        due(x.item(1, 0, 1), NOTHING);
        due(x.taken(0, 1), NOTHING);
    }

    private static void afterManyCalls() {
        at("an object is used for at most 512 calls");
        DominoKin x = of(1, 0, 0, 0);
        x.keep();
        for (int i = 0; i < 127; i++) {
            due(x.year(), 0);
            due(x.pieceOf(0, 1), 1);
            due(x.again(), 1);
            due(x.state(0), 0);
        }
        due(x.year(), 0);
        due(x.pieceOf(0, 1), 1);
    }
}
