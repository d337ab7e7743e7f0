/** Each promise by itself, worked out by hand from the document: ordinary inputs, edges, wrong inputs. */
public final class PromiseTest extends Check {
    public static void main(String[] args) {
        newObject();
        piece();
        pieceOf();
        change();
        remake();
        sayingsAndRooms();
        endsAndAnew();
        state();
        feed();
        rules();
        faults();
        years();
        rest();
        alone();
        waves();
        chains();
        plans();
        lines();
        games();
        reports();
        lots();
        rows();
        sheets();
        goings();
        shelves();
        acts();
        many();
        kept();
        finish();
    }

    private static void newObject() {
        at(1);
        DominoKin x = new DominoKin();
        for (int what = 0; what <= 6; what++) due(x.many(what), 0);
        due(x.again(), NONE);
        due(x.state(0), 0);
        due(x.state(1), 12);
        due(x.state(2), 0);
        for (int f = 0; f < 6; f++) {
            due(x.roomOf(f, 0), 0);
            due(x.roomOf(f, 1), 0);
        }
        for (int y = 0; y < 16; y++) due(x.saying(y, 0), 6);
        due(x.seed(0), 1);
        due(x.write(3, 0, 0), -11);
        due(x.taken(3, 0), -11);
    }

    private static void piece() {
        at(2);
        DominoKin x = new DominoKin();
        int[][] bad = {{0, 1, 1, 1}, {6, 1, 1, 1}, {1, -1, 1, 1}, {1, 100, 1, 1}, {1, 1, -1, 1}, {1, 1, 10, 1},
            {1, 1, 1, -1}, {1, 1, 1, 6}};
        for (int[] b : bad) due(x.piece(b[0], b[1], b[2], b[3]), BAD);
        due(x.many(0), 0);
        due(x.piece(1, 0, 0, 0), 0);
        due(x.piece(5, 99, 9, 5), 1);
        for (int i = 2; i < 6; i++) due(x.piece(2, 1, 1, 1), i);
        due(x.piece(2, 1, 1, 1), FULL);
        // what is bad is bad ahead of full
        for (int[] b : bad) due(x.piece(b[0], b[1], b[2], b[3]), BAD);
        due(x.many(0), 6);
    }

    private static void pieceOf() {
        at(3);
        DominoKin x = of(1, 89, 9, 3, 2, 10, 4, 0, 3, 20, 7, 1, 4, 0, 9, 2, 5, 30, 0, 5);
        x.saying(0, 4 * 1 + 3);
        int[] kinds = {1, 2, 3, 4, 5}, leans = {89, 10, 20, 0, 30}, gaps = {9, 4, 7, 9, 0}, rooms = {3, 0, 1, 2, 5};
        int[] more = {1, 6, 6, 0, 0}, bears = {95, 24, 25, 32, 54}, pays = {13, 0, 11, 0, 0};
        for (int k = 0; k < 5; k++) {
            due(x.pieceOf(k, 0), kinds[k]);
            due(x.pieceOf(k, 1), leans[k]);
            due(x.pieceOf(k, 2), gaps[k]);
            due(x.pieceOf(k, 3), rooms[k]);
            due(x.pieceOf(k, 4), 0);
            due(x.pieceOf(k, 5), more[k]);
            due(x.pieceOf(k, 6), bears[k]);
            due(x.pieceOf(k, 7), pays[k]);
            due(x.pieceOf(k, 8), pays[k] > 0 ? 1 : 0);
            due(x.pieceOf(k, 9), 0);
        }
        due(x.pieceOf(-1, 0), BAD);
        due(x.pieceOf(5, 0), BAD);
        due(x.pieceOf(0, -1), BAD);
        due(x.pieceOf(0, 10), BAD);
        // fallen: it pays nothing, but leans and has a will as ever
        x.change(2, 4, 1);
        due(x.pieceOf(2, 4), 1);
        due(x.pieceOf(2, 5), 6);
        due(x.pieceOf(2, 7), 0);
        due(x.pieceOf(2, 8), 0);
        text(x, "father stand; aunt hold;");
        due(x.pieceOf(2, 9), 1);
        due(x.pieceOf(0, 9), 2);
        due(x.pieceOf(0, 7), 13);
        due(x.pieceOf(0, 8), 0);
        leansByYear();
    }

    private static void leansByYear() {
        DominoKin x = of(3, 0, 0, 0, 5, 0, 0, 0, 4, 0, 0, 0);
        x.ends(16);
        for (int y = 0; y < 16; y++) x.saying(y, 4 * 3 + 1);
        for (int y = 0; y < 16; y++) {
            due(x.pieceOf(0, 5), 10 + y / 6);
            due(x.pieceOf(1, 5), y % 2 == 0 ? 4 : 0);
            due(x.pieceOf(2, 5), 4);
            x.year();
        }
        // behind year 15 the saying is 0
        due(x.state(5), 0);
        due(x.pieceOf(0, 5), 6);
        due(x.pieceOf(1, 5), 2);
    }

    private static void change() {
        at(4);
        DominoKin x = of(4, 10, 3, 2, 4, 10, 3, 3);
        due(x.change(0, 1, 99), 10);
        due(x.change(0, 1, 0), 99);
        due(x.change(0, 2, 9), 3);
        due(x.pieceOf(0, 6), 32);
        due(x.change(0, 3, 5), 2);
        due(x.change(0, 3, 2), 5);
        due(x.change(0, 4, 1), 0);
        due(x.pieceOf(1, 1), 10);
        due(x.change(0, 4, 1), 1);
        due(x.change(0, 4, 0), 1);
        due(x.state(4), 0);
        int[][] bad = {{-1, 1, 0}, {2, 1, 0}, {0, 0, 1}, {0, 5, 1}, {0, 1, -1}, {0, 1, 100}, {0, 2, -1}, {0, 2, 10},
            {0, 3, -1}, {0, 3, 6}, {0, 4, -1}, {0, 4, 2}};
        for (int[] b : bad) due(x.change(b[0], b[1], b[2]), BAD);
        due(x.pieceOf(0, 1), 0);
        due(x.pieceOf(0, 2), 9);
        due(x.pieceOf(0, 3), 2);
        due(x.pieceOf(0, 4), 0);
    }

    private static void remake() {
        at(5);
        DominoKin x = of(1, 10, 3, 2);
        due(x.remake(0, 2), 1);
        due(x.pieceOf(0, 6), 26);
        due(x.remake(0, 5), 2);
        due(x.pieceOf(0, 6), 44);
        due(x.pieceOf(0, 1), 10);
        due(x.pieceOf(0, 2), 3);
        due(x.pieceOf(0, 3), 2);
        due(x.remake(0, 0), BAD);
        due(x.remake(0, 6), BAD);
        due(x.remake(1, 1), BAD);
        due(x.remake(-1, 1), BAD);
        due(x.pieceOf(0, 0), 5);
    }

    private static void sayingsAndRooms() {
        at(6);
        DominoKin x = new DominoKin();
        due(x.saying(0, 15), 6);
        due(x.saying(0, 0), 15);
        due(x.saying(15, 3), 6);
        due(x.saying(15, 6), 3);
        due(x.saying(-1, 0), BAD);
        due(x.saying(16, 0), BAD);
        due(x.saying(0, -1), BAD);
        due(x.saying(0, 16), BAD);
        due(x.state(5), 0);
        at(7);
        due(x.room(0, 0, 9), 0);
        due(x.room(0, 1, 4), 0);
        due(x.room(0, 0, 1), 9);
        due(x.room(5, 1, 2), 0);
        due(x.room(-1, 0, 0), BAD);
        due(x.room(6, 0, 0), BAD);
        due(x.room(0, -1, 0), BAD);
        due(x.room(0, 2, 0), BAD);
        due(x.room(0, 0, -1), BAD);
        due(x.room(0, 0, 10), BAD);
        at(8);
        due(x.roomOf(0, 0), 1);
        due(x.roomOf(0, 1), 4);
        due(x.roomOf(5, 1), 2);
        due(x.roomOf(5, 0), 0);
        due(x.roomOf(6, 0), BAD);
        due(x.roomOf(-1, 0), BAD);
        due(x.roomOf(0, -1), BAD);
        due(x.roomOf(0, 2), BAD);
    }

    private static void endsAndAnew() {
        at(9);
        DominoKin x = of(2, 40, 2, 1);
        due(x.ends(0), BAD);
        due(x.ends(17), BAD);
        due(x.ends(16), 12);
        due(x.ends(1), 16);
        due(x.state(3), 0);
        x.year();
        due(x.state(3), 1);
        due(x.ends(3), 1);
        x.year();
        x.year();
        due(x.ends(2), STATE);
        due(x.ends(0), BAD);
        due(x.ends(3), 3);
        due(x.state(3), 1);
        due(x.ends(4), 3);
        due(x.state(3), 0);
        at(10);
        due(x.state(2), 6);
        due(x.anew(), 3);
        due(x.state(0), 0);
        due(x.state(1), 4);
        due(x.state(2), 0);
        due(x.state(4), 0);
        due(x.pieceOf(0, 1), 40);
        due(x.anew(), 0);
    }

    private static void state() {
        at(11);
        DominoKin x = of(2, 40, 2, 1, 1, 7, 0, 0);
        x.saying(1, 9);
        due(x.state(6), 47);
        x.year();
        due(x.state(0), 1);
        due(x.state(1), 12);
        due(x.state(2), 6);
        due(x.state(3), 0);
        due(x.state(4), 1);
        due(x.state(5), 9);
        due(x.state(6), 48);
        due(x.state(-1), BAD);
        due(x.state(7), BAD);
    }

    private static void feed() {
        at(12);
        DominoKin x = new DominoKin();
        due(x.feed(0, 0), BAD);
        due(x.feed(0, 9), BAD);
        due(x.feed(0, -1), BAD);
        due(x.many(5), 0);
        for (int i = 1; i <= 24; i++) due(x.feed(0x2020202020202020L, 8), 8 * i);
        due(x.feed(0x20202020202020L, 7), 199);
        due(x.feed(0x2020L, 2), FULL);
        due(x.feed(0x2020L, 9), BAD);
        due(x.feed(0x20L, 1), 200);
        due(x.feed(0x20L, 1), FULL);
        due(x.rules(), 0);
        due(x.many(5), 0);
        // the lowest byte comes first: "aunt say" ";"
        due(x.feed(0x79617320746e7561L, 8), 8);
        due(x.feed(0x3bL, 1), 9);
        due(x.rules(), 1);
    }

    private static void rules() {
        at(13);
        DominoKin x = of(1, 10, 1, 0, 2, 20, 2, 1, 3, 30, 3, 2, 4, 40, 4, 3, 5, 50, 5, 4, 1, 60, 6, 5);
        due(text(x, ""), 0);
        due(wills(x), 0);
        due(text(x, "piece stand;"), 1);
        due(wills(x), 111111);
        due(text(x, "aunt hold;"), 1);
        due(wills(x), 200002);
        due(text(x, "eldest stand;father hold;girl stand;"), 3);
        due(wills(x), 21110);
        due(text(x, "father hold;eldest stand;sailor stand;piece say;"), 4);
        due(wills(x), 22010);
        due(text(x, "piece if lean > 30 hold;"), 1);
        due(wills(x), 222);
        due(text(x, "piece if not lean > 30 hold;"), 1);
        due(wills(x), 222000);
        due(text(x, "piece if not not lean>30hold;"), 1);
        due(wills(x), 222);
        due(text(x, "piece if number=0 or number = 5 and gap < 7 hold ; "), 1);
        due(wills(x), 200002);
        due(text(x, "piece if (number=0 or number = 5) and gap < 6 hold;"), 1);
        due(wills(x), 200000);
        due(text(x, "piece if not (number=0 or number = 5) hold;"), 1);
        due(wills(x), 22220);
        due(text(x, "piece if not number=0 or number = 5 hold;"), 1);
        due(wills(x), 22222);
        due(text(x, "piece if 0004 > gap hold;"), 1);
        due(wills(x), 222000);
        due(text(x, "piece if ((( lean = 40 ))) stand;"), 1);
        due(wills(x), 100);
        due(text(x, "piece if word = 1 and year = 0 and lean < 9999 stand;"), 1);
        due(wills(x), 111111);
        due(text(x, "piece if (gap=1 and lean=10 or (gap=2 and (number = 1 or 3>4))) and 1=1 or gap=6 hold;"), 1);
        due(wills(x), 220002);
        due(text(x, "aunt if " + "not ".repeat(45) + "1=2 hold;"), 1);
        due(wills(x), 200002);
        due(text(x, "aunt if " + "not ".repeat(44) + "1=2 hold;"), 1);
        due(wills(x), 0);
        due(text(x, "aunt if 1=2" + " or 1=2".repeat(25) + " or gap=1hold;"), 1);
        due(wills(x), 200000);
        due(text(x, "aunt if 1=1" + " and 1=1".repeat(20) + " and gap=1hold;"), 1);
        due(wills(x), 200000);
        // in place of all; a fault leaves them
        due(text(x, "aunt hold;"), 1);
        due(text(x, "aunt stand; girl"), -116);
        due(x.many(1), 1);
        due(x.many(5), 0);
        due(wills(x), 200002);
        due(text(x, "aunt say;aunt say;aunt say;aunt say;aunt say;aunt say;aunt say;aunt hold;"), 8);
        due(wills(x), 0);
        due(text(x, "    "), 0);
        due(x.many(1), 0);
        // word and year are those of now
        DominoKin y = of(2, 0, 0, 0);
        text(y, "piece if year > 0 stand; piece if word > 2 hold;");
        due(y.pieceOf(0, 9), 0);
        y.saying(0, 12);
        due(y.pieceOf(0, 9), 2);
        y.year();
        due(y.pieceOf(0, 9), 1);
    }

    /** The wills of six pieces, a digit each. */
    private static int wills(DominoKin x) {
        int all = 0;
        for (int k = 0; k < 6; k++) all = all * 10 + x.pieceOf(k, 9);
        return all;
    }

    private static void faults() {
        at(13);
        String[] texts = {"c", "  c", "aunt", "aunt ", "aunt say", "aunt say  ", "aunt;", "aunt say say;", "say;",
            "aunt sayx;", "auntsay;", "Aunt say;", "aunt say;;", "aunt if say;", "aunt if lean say;",
            "aunt if lean < say;", "aunt if lean < 5 ;", "aunt if lean <> 5 say;", "aunt if lean < 12345 say;",
            "aunt if 5 < lean and say;", "aunt if 5 < lean or", "aunt if (5 < lean say;", "aunt if 5 < lean ) say;",
            "aunt if ((((5 < lean)))) say;", "aunt if (((5 < (lean)))) say;", "aunt if (1=1) and ((( 1=1 ))) or (((1=1) and (1=1))) say;",
            "aunt if ( ) say;", "aunt if not say;", "aunt if not not", "aunt if aunt = 1 say;", "aunt say;\tgirl say;",
            "aunt say; 7", "12345", "aunt if 1 2", "aunt if 1=1 5", "aunt if if", "aunt hold; \u00e9",
            "aunt say;aunt say;aunt say;aunt say;aunt say;aunt say;aunt say;aunt hold; aunt say;",
            "aunt say;aunt say;aunt say;aunt say;aunt say;aunt say;aunt say;aunt hold;;",
            "if say;", "aunt if (1=1; say;", "aunt say)", "aunt say X", "aunt if 00012 < lean say;", "auntz say;",
            "aunt if lean < 1 if", "aunt if 1 and", ";".repeat(200), "7".repeat(200), "z".repeat(200),
            "aunt if " + "(".repeat(192), "aunt if 1=1 say;" + " ".repeat(184), " ".repeat(199) + "z"};
        int[] places = {0, 2, 4, 5, 8, 10, 4, 9, 0,
            5, 0, 0, 9, 8, 13,
            15, 17, 14, 15,
            21, 19, 18, 17,
            11, 15, -1,
            10, 12, 15, 8, 9,
            10, 0, 10, 12, 8, 11,
            74, 73,
            0, 12, 8, 9, 8, 0,
            17, 10, 0, 0, 0,
            11, -1, 199};
        for (int i = 0; i < texts.length; i++) {
            DominoKin x = new DominoKin();
            due(text(x, texts[i]), places[i] < 0 ? 1 : -100 - places[i]);
        }
    }

    private static void years() {
        at(14);
        // a father says his say, leans on the next room and that one falls by itself
        DominoKin x = of(2, 26, 0, 1, 4, 40, 0, 2, 1, 50, 0, 2, 2, 5, 9, 0);
        x.room(2, 0, 9);
        x.room(1, 0, 3);
        // 26 + 6 are the 32 that it bears; then 40 + 21 = 61 < 62: the girl stands
        due(x.year(), 4);
        due(x.pieceOf(0, 1), 26);
        due(x.pieceOf(1, 1), 62);
        due(x.pieceOf(2, 1), 72);
        due(x.pieceOf(3, 1), 11);
        due(x.state(4), 1);
        due(x.state(2), 4);
        // the girl may fall too, and is told ahead of (2): worth what she pays; room 3 is empty
        due(x.year(), 4);
        due(x.state(4), 3);
        due(x.pieceOf(3, 1), 17);
        due(x.state(2), 8);
        // the last piece pays from 14: 17 + 6 is more; it leans on room 1, where all are fallen
        due(x.year(), 13);
        due(x.state(4), 11);
        due(x.pieceOf(0, 1), 26);
        due(x.state(0), 3);
        x.ends(3);
        due(x.year(), STATE);
        due(x.state(2), 21);
        byThemselves();
        holds();
    }

    private static void byThemselves() {
        // both are bent as (2) begins, and the first leans on the second before that falls; the third gets bent too late
        DominoKin x = of(2, 44, 0, 0, 2, 60, 0, 1, 4, 55, 0, 2, 4, 90, 0, 5);
        text(x, "piece stand;");
        due(x.year(), 3);
        due(x.state(4), 11);
        due(x.pieceOf(0, 1), 44);
        due(x.pieceOf(1, 1), 72);
        due(x.pieceOf(2, 1), 68);
        due(x.pieceOf(3, 1), 90);
        due(x.year(), 1);
        due(x.state(4), 15);
        due(x.state(2), 4);
        // one below is not enough; 99 is the most
        DominoKin y = of(2, 43, 0, 0, 1, 99, 0, 1);
        text(y, "piece stand;");
        due(y.year(), 0);
        due(y.pieceOf(0, 1), 49);
        due(y.pieceOf(1, 1), 99);
        due(y.year(), 1);
        due(y.pieceOf(1, 1), 99);
    }

    private static void holds() {
        DominoKin x = of(1, 30, 0, 2);
        text(x, "piece hold;");
        x.room(2, 1, 7);
        x.sheet(0, 0, 4);
        for (int i = 0; i < 4; i++) x.write(0, i, 1);
        x.saying(0, 1);
        x.saying(1, 2);
        x.saying(2, 3);
        due(x.goAll(0, 0, 1), 0);
        due(x.pieceOf(0, 1), 14);
        due(x.goAll(0, 0, 1), 1);
        due(x.pieceOf(0, 1), 1);
        due(x.goAll(0, 0, 1), 1);
        due(x.pieceOf(0, 1), 1);
        due(x.state(4), 0);
        due(x.year(), 0);
        due(x.pieceOf(0, 1), 2);
    }

    private static void rest() {
        DominoKin x = of(4, 20, 5, 0, 2, 0, 9, 3);
        // girl bears 40, leans 1 a year: with 6 of a word, she pays 9 in year 14
        // father bears 14, leans 6: 0, 6, 12: pays 13 in year 2 (12 + 6), as 6 + 6 < 14
        at(15);
        due(x.on(0), 0);
        due(x.on(2), 0);
        due(x.on(3), 13);
        due(x.on(16), 13);
        x.ends(16);
        due(x.on(14), 13);
        due(x.on(15), 22);
        due(x.on(16), 22);
        due(x.on(17), BAD);
        due(x.on(-1), BAD);
        due(x.state(0), 0);
        due(x.state(2), 0);
        at(16);
        due(x.when(0), 14);
        due(x.when(1), 2);
        due(x.when(2), BAD);
        due(x.when(-1), BAD);
        x.ends(12);
        due(x.when(0), NONE);
        x.change(1, 4, 1);
        due(x.when(1), NONE);
        x.change(1, 4, 0);
        at(17);
        // girl: a gap of g bears 50 - 2g, and 20 + 11 + 6 at the last: from 7 on she falls; 9 pays most
        due(x.gapFor(0), 9);
        due(x.gapFor(1), 9);
        due(x.pieceOf(0, 2), 5);
        due(x.pieceOf(0, 6), 40);
        due(x.gapFor(2), BAD);
        due(x.gapFor(-1), BAD);
        x.change(0, 4, 1);
        due(x.gapFor(0), 0);
        x.change(0, 4, 0);
        at(18);
        // the father falls in year 2 and leans 12 on the next room: the girl, in room 4, falls in time
        due(x.roomFor(0), 4);
        // or the father in the room ahead of hers: there is none ahead of room 0
        due(x.roomFor(1), 0);
        x.change(0, 3, 3);
        due(x.roomFor(1), 2);
        due(x.pieceOf(1, 3), 3);
        due(x.roomFor(2), BAD);
        due(x.roomFor(-1), BAD);
        due(x.state(0), 0);
        // the father falls in room 4, so the girl had best be in the last one
        x.change(1, 3, 4);
        due(x.roomFor(0), 5);
        due(x.pieceOf(0, 3), 3);
        lastYear();
    }

    /** A girl who leans 1 a year: 32 in year 15, and with a word of 6 she pays there first. */
    private static void lastYear() {
        DominoKin x = of(4, 17, 6, 0, 4, 35, 6, 1);
        x.ends(16);
        at(16);
        due(x.when(0), 15);
        x.ends(15);
        due(x.when(0), NONE);
        x.ends(16);
        at(19);
        // she bears 38: 50 in year 15
        due(x.itself(1), 15);
        at(36);
        // as nobody says: 1 is worth something in year 15 alone
        text(x, "piece stand;");
        due(x.times(9, 1), 9);
        due(x.times(9, 2), 0);
        x.ends(15);
        due(x.times(9, 1), 0);
    }

    private static void alone() {
        at(19);
        // father bears 32: 44 by year 2 (30, 36, 42, 48): falls in year 3; aunts never
        DominoKin x = of(2, 30, 0, 0, 1, 99, 0, 5, 4, 40, 0, 1);
        due(x.itself(0), 3);
        due(x.itself(1), NONE);
        // girl bears 50: 43 in year 3, then 12 more; 56 behind it, and 62 in year 10
        due(x.itself(2), 10);
        x.ends(10);
        due(x.itself(2), NONE);
        x.room(1, 0, 9);
        // 43 + 21 = 64, behind (2) of year 3; she falls in year 4
        due(x.itself(2), 4);
        x.ends(4);
        due(x.itself(2), NONE);
        due(x.itself(0), 3);
        x.ends(3);
        due(x.itself(0), NONE);
        due(x.itself(3), BAD);
        due(x.itself(-1), BAD);
        x.ends(12);
        x.change(0, 4, 1);
        due(x.itself(0), NONE);
        due(x.state(0), 0);
        at(20);
        DominoKin y = of(4, 31, 0, 0, 4, 32, 0, 0, 4, 38, 0, 0, 4, 44, 0, 0, 4, 50, 0, 0, 4, 51, 0, 0);
        int[] words = {NONE, 3, 2, 1, 0, 0};
        for (int k = 0; k < 6; k++) due(y.least(k), words[k]);
        text(y, "piece stand;");
        due(y.least(1), 3);
        y.change(1, 4, 1);
        due(y.least(1), NONE);
        due(y.least(6), BAD);
        due(y.least(-1), BAD);
    }

    private static void waves() {
        at(21);
        DominoKin x = of(1, 0, 0, 0, 2, 32, 0, 1, 2, 25, 0, 2, 1, 0, 0, 3);
        // the aunt leans 12 on 1 (44: bent), which leans 12 on 2 in year 0: 37 and 6 are 43; in year 1 it isn't bent
        due(x.wave(0, 0), 1);
        due(x.wave(0, 1), 3);
        due(x.wave(0, 2), 3);
        due(x.wave(0, 3), 7);
        due(x.wave(0, 16), 7);
        x.ends(2);
        due(x.wave(0, 16), 3);
        due(x.wave(3, 0), 8);
        due(x.wave(2, 0), 4);
        x.change(0, 4, 1);
        // it is fallen: it leans on nobody once more
        due(x.wave(0, 1), 1);
        due(x.pieceOf(1, 1), 32);
        due(x.wave(4, 1), BAD);
        due(x.wave(-1, 1), BAD);
        due(x.wave(0, -1), BAD);
        due(x.wave(0, 17), BAD);
        due(x.state(0), 0);
        due(x.state(4), 1);
    }

    private static void chains() {
        at(22);
        DominoKin x = of(1, 0, 0, 0, 1, 0, 0, 2, 1, 0, 0, 5, 1, 0, 0, 2, 1, 0, 0, 1);
        due(x.chains(-1), 2);
        due(x.chains(0), 1 + 2 + 8 + 16);
        due(x.chains(1), 27);
        due(x.chains(2), 4);
        due(x.chains(3), 27);
        x.change(4, 4, 1);
        due(x.chains(-1), 3);
        due(x.chains(0), 1);
        due(x.chains(1), 10);
        due(x.chains(4), 0);
        x.change(2, 3, 3);
        due(x.chains(1), 14);
        due(x.chains(-1), 2);
        due(x.chains(5), BAD);
        due(x.chains(-2), BAD);
        due(x.chains(6), BAD);
        // a chain whose links come in bad order
        DominoKin y = of(1, 0, 0, 0, 1, 0, 0, 5, 1, 0, 0, 4, 1, 0, 0, 3, 1, 0, 0, 2, 1, 0, 0, 1);
        due(y.chains(0), 63);
        due(y.chains(-1), 1);
    }

    private static void plans() {
        // 0: 32 bears, pays 4 now. 1: bears 24, 20 + 6: pays 8 now; room 1 is next to room 0
        DominoKin x = of(2, 30, 0, 0, 2, 20, 4, 1);
        at(23);
        due(x.best(0), 0);
        due(x.best(1), 8);
        due(x.best(2), 12);
        due(x.best(3), 12);
        due(x.best(-1), BAD);
        due(x.best(5), BAD);
        at(24);
        due(x.ith(1, 0), 2);
        due(x.ith(1, 1), NONE);
        // 1 then 2: leaned on, 20 + 12 + 6 = 38 >= 36: it waits: bent in year 1? 38 is 14 more, but told first it pays 8
        due(x.ith(2, 0), 1);
        due(x.ith(2, 1), 2);
        due(x.ith(0, 0), NONE);
        due(x.ith(5, 0), BAD);
        due(x.ith(-1, 0), BAD);
        due(x.ith(2, 4), BAD);
        due(x.ith(2, -1), BAD);
        at(25);
        due(x.ways(0), 1);
        due(x.ways(1), 1);
        due(x.ways(2), 2);
        // 1 2 any, 2 1 any (three each); 2, none or 2 again, 1; and none 2 1
        due(x.ways(3), 9);
        due(x.ith(3, 0), 0);
        due(x.ith(3, 1), 2);
        due(x.ith(3, 2), 1);
        due(x.ith(3, 3), NONE);
        due(x.ways(5), BAD);
        due(x.ways(-1), BAD);
        due(x.best(4), 12);
        // in year 3 piece 0 is bent (48 of 44), but told it still pays ahead of that: all of three years, then any;
        // 2 and two that are none or 2, then 1; none 2, none or 2, 1; none none 2 1: 27 + 4 + 2 + 1
        due(x.ways(4), 34);
        due(x.ith(4, 1), 0);
        due(x.ith(4, 2), 2);
        due(x.ith(4, 3), 1);
        x.ends(1);
        due(x.ways(4), 1);
        due(x.best(4), 8);
        due(x.ith(4, 1), NONE);
        x.year();
        due(x.best(4), 0);
        due(x.ways(4), 1);
        due(x.ith(4, 0), NONE);
    }

    private static void lines() {
        at(26);
        DominoKin x = of(2, 30, 0, 0, 2, 20, 4, 1, 1, 0, 0, 5);
        due(x.line(0, 0), 0);
        due(x.line(0, 1), NONE);
        due(x.line(1, 1), 1);
        due(x.line(1, 2), 1);
        due(x.line(1, 3), NONE);
        // 0 is told; 1 is leaned on, 32 + 6 = 38 >= 36: it falls by itself in year 1
        due(x.line(2, 3), 1);
        // told none: 1 is bent (36) behind 20, 26, 32, 38: in year 3; 0 (44): 30, 36, 42, 48: in year 3
        due(x.line(3, 3), 1);
        due(x.line(4, 3), 0);
        due(x.line(4, 4), NONE);
        due(x.line(4, 7), NONE);
        due(x.line(4, 8), BAD);
        due(x.line(4, -1), BAD);
        due(x.line(5, 1), BAD);
        due(x.line(-1, 1), BAD);
        at(27);
        due(x.bars(4, 7), 2);
        due(x.bars(4, 3), NONE);
        due(x.bars(1, 3), NONE);
        due(x.bars(0, 3), 0);
        due(x.bars(0, 2), 1);
        due(x.bars(0, 0), NONE);
        due(x.bars(4, 8), BAD);
        due(x.bars(4, -1), BAD);
        due(x.bars(5, 1), BAD);
        due(x.bars(-1, 1), BAD);
        x.change(0, 4, 1);
        due(x.line(0, 1), 0);
        due(x.bars(0, 3), 1);
        x.ends(1);
        due(x.line(4, 3), 1);
        // who is held doesn't fall, but nobody has to be told
        DominoKin y = of(2, 44, 0, 0);
        text(y, "piece hold;");
        at(27);
        due(y.bars(1, 1), NONE);
        at(26);
        due(y.line(1, 1), 0);
        // four that must all be told: in one room, and far from falling by themselves
        DominoKin z = of(4, 40, 5, 0, 4, 40, 5, 0, 4, 40, 5, 0, 4, 40, 5, 0);
        due(z.line(4, 15), 4);
        due(z.line(4, 14), 3);
        due(z.line(3, 15), NONE);
        at(27);
        due(z.bars(4, 15), NONE);
    }

    private static void games() {
        DominoKin x = of(2, 30, 0, 0, 2, 20, 4, 1);
        at(28);
        due(x.game(1), 8);
        // 2 (8) and then none: 8; 1 (4) and then none: the other falls by itself: 5; or 2: 12
        due(x.game(2), 8);
        due(x.game(0), BAD);
        due(x.game(5), BAD);
        at(29);
        due(x.play(1), 2);
        due(x.play(2), 2);
        due(x.play(0), BAD);
        due(x.play(5), BAD);
        // 3: the first one says the last thing too
        at(28);
        due(x.game(3), 12);
        at(29);
        due(x.play(3), 2);
        x.ends(1);
        due(x.game(4), 8);
        due(x.play(4), 2);
        x.year();
        due(x.game(4), 0);
        due(x.play(4), NONE);
        due(x.play(5), BAD);
        // of several the least: nothing can be won, so it is 0
        DominoKin y = of(1, 0, 0, 0, 1, 0, 0, 0);
        due(y.play(4), 0);
    }

    private static void reports() {
        at(30);
        DominoKin x = new DominoKin();
        int[][] bad = {{-1, 0, 0, 1}, {16, 0, 0, 1}, {0, -1, 0, 1}, {0, 2, 0, 1}, {0, 0, -1, 1}, {0, 0, 0, 100},
            {0, 1, 0, 17}, {0, 1, -1, 1}, {0, 0, 2, 1}, {0, 0, 100, 100}, {0, 1, 17, 17}};
        for (int[] b : bad) due(x.report(b[0], b[1], b[2], b[3]), BAD);
        due(x.many(3), 0);
        due(x.report(0, 0, 0, 0), 0);
        due(x.report(15, 1, 16, 16), 1);
        due(x.report(15, 0, 99, 99), 2);
        for (int i = 3; i < 6; i++) due(x.report(1, 0, 0, 99), i);
        due(x.report(1, 0, 0, 99), FULL);
        for (int[] b : bad) due(x.report(b[0], b[1], b[2], b[3]), BAD);
        at(31);
        due(x.forget(), 6);
        due(x.forget(), 0);
        due(x.many(3), 0);
        lone();
        liar();
    }

    private static void lone() {
        at(32);
        DominoKin x = new DominoKin();
        due(x.lone(0), 500);
        due(x.lone(1), 1);
        due(x.lone(2), 0);
        due(x.lone(3), 0);
        due(x.lone(-1), BAD);
        due(x.lone(4), BAD);
        // a lean of 9 at first: 5 kinds, 10 gaps
        x.report(0, 0, 5, 10);
        due(x.lone(0), 50);
        due(x.lone(3), 9);
        // 9 + 2 * 6 behind two years: father and eldest
        x.report(2, 0, 21, 21);
        due(x.lone(0), 20);
        due(x.lone(1), 2);
        // behind 8 years father 57, eldest 59 (a sixth of years 6 and 7)
        x.report(8, 0, 59, 59);
        due(x.lone(0), 10);
        due(x.lone(1), 3);
        // eldest bears 32 - gap; with 6: 15, 21, 27, 33 in years 0 to 3: one of four, if it bears 28 to 33
        x.report(4, 1, 1, 1);
        due(x.lone(0), 5);
        due(x.lone(2), 0);
        // two: 22 to 27
        x.forget();
        x.report(0, 0, 5, 10);
        x.report(8, 0, 59, 59);
        x.report(4, 1, 2, 2);
        due(x.lone(0), 5);
        due(x.lone(2), 5);
        due(x.lone(3), 9);
        x.report(0, 0, 6, 8);
        due(x.lone(0), 0);
        due(x.lone(1), NONE);
        due(x.lone(2), NONE);
        due(x.lone(3), NONE);
        due(x.lone(4), BAD);
        // a sailor leans in even years alone, a girl in all; sayings as they are, whatever year and end
        DominoKin y = new DominoKin();
        y.ends(1);
        y.year();
        y.saying(0, 12);
        y.saying(1, 12);
        y.report(0, 0, 0, 0);
        y.report(2, 0, 5, 5);
        due(y.lone(1), 5);
        due(y.lone(0), 10);
        y.saying(1, 15);
        y.forget();
        y.report(0, 0, 0, 0);
        y.report(2, 0, 7, 7);
        due(y.lone(1), 4);
        due(y.lone(0), 10);
        // 99 is the most, and it never falls
        y.forget();
        y.report(0, 0, 81, 81);
        y.report(15, 0, 99, 99);
        y.report(15, 1, 15, 15);
        // aunt 96, sailor 93; father, eldest and girl do
        due(y.lone(1), 2);
        due(y.lone(0), 30);
    }

    private static void liar() {
        at(33);
        DominoKin x = new DominoKin();
        due(x.liar(), NONE);
        x.report(0, 0, 9, 9);
        due(x.liar(), NONE);
        x.report(0, 0, 18, 18);
        // either may be wrong: the least
        due(x.lone(0), 0);
        due(x.liar(), 0);
        x.report(0, 0, 9, 27);
        due(x.liar(), 0);
        x.report(0, 0, 18, 18);
        due(x.liar(), 0);
        x.forget();
        x.report(0, 0, 9, 9);
        x.report(0, 0, 9, 9);
        x.report(0, 0, 18, 18);
        due(x.liar(), 2);
        // each two go against each other: no one report
        x.report(0, 0, 18, 18);
        due(x.liar(), NONE);
        // one alone fits: an eldest who leans 9 at first and bears 32; 31 is the most of the first five years
        DominoKin y = new DominoKin();
        y.saying(3, 0);
        y.saying(4, 0);
        y.report(0, 0, 9, 9);
        y.report(8, 0, 55, 55);
        y.report(5, 1, 0, 0);
        due(y.lone(0), 1);
        due(y.lone(1), 3);
        due(y.lone(2), 0);
        due(y.lone(3), 9);
        due(y.liar(), NONE);
    }

    private static void lots() {
        at(34);
        DominoKin x = of(2, 30, 0, 0, 1, 0, 0, 5);
        due(x.seed(7), 1);
        due(x.seed(Integer.MIN_VALUE), 7);
        due(x.seed(1), Integer.MIN_VALUE);
        at(35);
        // z: 1 becomes 1103527590: >>> 16 is 16838, by 3 it leaves 2: the aunt, who pays nothing
        due(x.lot(), 0);
        due(x.state(0), 1);
        due(x.state(4), 0);
        int z = 1103527590;
        due(x.seed(z), z);
        // then -1770710810 wraps: >>> 16 is 38516, leaves 2 by 3; and so on till one leaves 1: there the father falls
        int worth = 0;
        for (int year = 1; year < 4 && worth == 0; year++) {
            z = z * 1103515245 + 12345;
            int act = (z >>> 16) % 3;
            // the father bears 32, and is bent from 44 on
            int lean = 30 + 6 * year;
            worth = act == 1 ? 4 : lean >= 44 ? 1 : 0;
            due(x.lot(), worth);
            due(x.seed(z), z);
        }
        due(x.state(2), worth);
        due(x.state(4), 1);
        x.ends(x.state(0));
        due(x.lot(), STATE);
        due(x.seed(z), z);
        at(36);
        DominoKin y = of(2, 30, 0, 0);
        y.ends(1);
        // one year each: by 2, an odd z >>> 16 tells the father, worth 4
        int told = 0;
        z = 1;
        for (int i = 0; i < 40; i++) {
            z = z * 1103515245 + 12345;
            told += (z >>> 16) % 2;
        }
        due(y.times(40, 4), told);
        due(y.times(40, 5), 0);
        due(y.times(40, 0), 40);
        due(y.times(1, 0), 1);
        due(y.seed(1), 1);
        due(y.state(0), 0);
        due(y.state(2), 0);
        due(y.times(0, 0), BAD);
        due(y.times(41, 0), BAD);
        due(y.times(1, -1), BAD);
        due(y.times(1, 1000), BAD);
        due(y.times(1, 999), 0);
        y.year();
        due(y.times(7, 0), 7);
        due(y.times(7, 1), 0);
    }

    private static void rows() {
        at(37);
        DominoKin x = of(2, 30, 0, 0, 2, 20, 4, 1, 1, 0, 0, 5);
        due(x.judge(), 0);
        due(x.prove(5), BAD);
        due(x.prove(-1), BAD);
        due(x.prove(3), 3);
        due(x.many(4), 3);
        due(x.prove(-1), BAD);
        due(x.many(4), 3);
        due(x.state(0), 0);
        at(38);
        int[][] rows = {{0, 0, 0}, {2, 8, 2}, {1, 4, 3}};
        for (int k = 0; k < 3; k++) {
            for (int what = 0; what < 3; what++) due(x.row(k, what), rows[k][what]);
        }
        due(x.row(3, 0), -9);
        due(x.row(-1, 0), -9);
        due(x.row(0, 3), -9);
        due(x.row(0, -1), -9);
        at(39);
        due(x.alterRow(0, 0, 3), 0);
        due(x.row(0, 0), 3);
        due(x.alterRow(3, 0, 0), -9);
        due(x.alterRow(-1, 0, 0), -9);
        due(x.alterRow(0, 3, 0), -9);
        due(x.alterRow(0, -1, 0), -9);
        at(40);
        // another act that comes to the same is right as well: the aunt pays nothing
        due(x.judge(), 0);
        due(x.alterRow(2, 0, 4), 1);
        due(x.judge(), 3);
        due(x.alterRow(2, 0, -1), 4);
        due(x.judge(), 3);
        due(x.alterRow(2, 0, 1), -1);
        due(x.judge(), 0);
        due(x.alterRow(1, 2, 3), 2);
        due(x.judge(), 2);
        due(x.alterRow(0, 1, Integer.MAX_VALUE), 0);
        due(x.judge(), 1);
        due(x.alterRow(0, 1, 0), Integer.MAX_VALUE);
        due(x.alterRow(1, 2, 2), 3);
        due(x.judge(), 0);
        x.ends(2);
        due(x.judge(), 3);
        x.ends(12);
        x.change(1, 1, 0);
        due(x.judge(), 2);
        due(x.state(0), 0);
        at(37);
        due(x.prove(0), 0);
        due(x.judge(), 0);
        due(x.row(0, 0), -9);
        x.ends(1);
        due(x.prove(4), 1);
    }

    private static void sheets() {
        at(41);
        DominoKin x = new DominoKin();
        due(x.sheet(-1, 0, 1), BAD);
        due(x.sheet(4, 0, 1), BAD);
        due(x.sheet(0, -2, 1), BAD);
        due(x.sheet(0, 5, 1), BAD);
        due(x.sheet(0, 0, 41), BAD);
        due(x.sheet(0, 0, -1), -14);
        due(x.sheet(4, 0, -1), BAD);
        due(x.sheet(0, 5, -1), BAD);
        due(x.write(0, 0, 1), -11);
        for (int sort = 0; sort < 4; sort++) due(x.sheet(sort, sort, 40), 1);
        at(42);
        for (int sort = 0; sort < 4; sort++) {
            due(x.write(sort, 39, 70000), 1);
            due(x.write(sort, 40, 1), -12);
            due(x.write(sort, -1, 1), -12);
        }
        due(x.write(-1, 0, 1), BAD);
        due(x.write(4, 0, 1), BAD);
        at(43);
        int[] narrowed = {112, 4464, 70000, 70000};
        for (int sort = 0; sort < 4; sort++) {
            due(x.item(sort, sort, 39), narrowed[sort]);
            due(x.item(sort, sort, 0), 0);
            due(x.item(sort, sort, 40), -12);
            due(x.item(sort, sort, -1), -12);
            due(x.item(sort, 4, 99), -13);
            due(x.item(sort, 5, 0), BAD);
            due(x.item(sort, -1, 0), BAD);
        }
        due(x.item(4, 0, 0), BAD);
        due(x.item(-1, 0, 0), BAD);
        x.write(0, 0, 200);
        due(x.item(0, 0, 0), -56);
        x.write(1, 0, 40000);
        due(x.item(1, 1, 0), -25536);
        x.write(3, 0, Integer.MIN_VALUE);
        due(x.item(3, 3, 0), Integer.MIN_VALUE);
        x.sheet(0, 4, 2);
        x.write(0, 0, -256);
        due(x.item(0, 4, 0), 1);
        x.write(0, 0, 0);
        due(x.item(0, 4, 0), 0);
        // a new row is all 0; a refused one changes nothing; missing, whatever n
        x.write(0, 0, 1);
        due(x.sheet(0, 4, -1), -14);
        due(x.item(0, 4, 0), 1);
        due(x.sheet(0, 4, 1), 1);
        due(x.item(0, 4, 0), 0);
        due(x.item(0, 4, 1), -12);
        due(x.sheet(0, 4, 0), 1);
        due(x.item(0, 4, 0), -12);
        due(x.sheet(0, -1, -5), 1);
        due(x.sheet(1, -1, 99), 1);
        due(x.item(0, 4, 0), -11);
        due(x.item(0, 0, 99), -11);
        due(x.write(1, 99, 0), -11);
    }

    private static void goings() {
        at(44);
        DominoKin x = of(2, 30, 0, 0, 2, 20, 4, 1);
        x.sheet(0, 0, 6);
        int[] acts = {1, 99, 2, -1, 0, 3};
        for (int i = 0; i < 6; i++) x.write(0, i, acts[i]);
        due(x.goAll(0, 0, 0), 0);
        due(x.goAll(0, 99, 0), 0);
        due(x.goAll(-1, 0, 0), BAD);
        due(x.goAll(4, 0, 0), BAD);
        due(x.goAll(0, 0, -1), BAD);
        due(x.goAll(0, 0, 21), BAD);
        due(x.goAll(1, 0, 0), -11);
        due(x.goAll(1, 0, 21), BAD);
        x.sheet(1, 1, 4);
        due(x.goAll(1, 0, 0), -13);
        due(x.state(0), 0);
        at(45);
        due(x.wouldBe(0, 0, 0), 0);
        due(x.wouldBe(0, 0, 1), 4);
        due(x.wouldBe(0, 0, 2), STATE);
        due(x.wouldBe(0, 2, 1), 8);
        due(x.wouldBe(0, 3, 1), STATE);
        due(x.wouldBe(0, 4, 1), 0);
        due(x.wouldBe(0, 4, 2), STATE);
        due(x.wouldBe(0, 5, 1), STATE);
        due(x.wouldBe(0, 6, 1), -12);
        due(x.wouldBe(0, -1, 1), -12);
        due(x.wouldBe(0, Integer.MAX_VALUE, 20), -12);
        due(x.wouldBe(0, Integer.MIN_VALUE, 20), -12);
        due(x.wouldBe(1, 0, 1), -13);
        due(x.wouldBe(2, 0, 1), -11);
        due(x.wouldBe(4, 0, 1), BAD);
        due(x.wouldBe(2, 0, 21), BAD);
        due(x.wouldBe(2, 0, -1), BAD);
        due(x.state(0), 0);
        at(44);
        // 1, 2, 0 are acts; then a place outside: what stood ahead was done
        due(x.goAll(0, 0, 7), -12);
        due(x.state(0), 3);
        due(x.state(2), 12);
        due(x.state(4), 3);
        x.anew();
        // lean stayed: 30 and 38; the second is leaned on and falls by itself
        due(x.goAll(0, 0, 3), 5);
        due(x.state(0), 2);
        due(x.state(2), 5);
        x.ends(2);
        due(x.goAll(0, 0, 6), 0);
        due(x.goAll(0, 0, 7), -12);
        due(x.goAll(0, -1, 1), -12);
        due(x.state(0), 2);
        at(45);
        due(x.wouldBe(0, 0, 1), STATE);
        due(x.wouldBe(0, 9, 1), -12);
        due(x.wouldBe(0, 0, 0), 0);
        x.ends(3);
        due(x.wouldBe(0, 4, 1), 0);
        x.write(0, 5, 0);
        due(x.wouldBe(0, 4, 2), STATE);
    }

    private static void shelves() {
        at(46);
        DominoKin x = of(1, 0, 0, 0, 2, 0, 0, 0, 3, 0, 0, 0, 4, 0, 0, 0, 5, 0, 0, 0);
        due(x.shelf(-1, 2, 0), BAD);
        due(x.shelf(4, 2, 0), BAD);
        due(x.shelf(0, -1, 0), BAD);
        due(x.shelf(0, 3, 0), BAD);
        due(x.shelf(0, 0, 5), BAD);
        due(x.shelf(0, 0, -1), BAD);
        due(x.shelf(0, 1, 4), BAD);
        due(x.shelf(0, 1, -1), BAD);
        due(x.shelf(0, 2, 99), 1);
        due(x.shelf(0, 1, 0), 1);
        at(47);
        due(x.taken(0, 0), -11);
        due(x.taken(0, 10), -11);
        // whom each kind is taken for
        int[][] under = {{1, 1, 0, 0, 0, 0}, {1, 0, 1, 0, 0, 0}, {1, 0, 1, 1, 0, 0}, {1, 0, 0, 0, 1, 0}, {1, 0, 0, 0, 1, 1}};
        for (int n = 0; n < 5; n++) {
            due(x.shelf(3, 0, n), 1);
            for (int as = 0; as < 6; as++) due(x.taken(3, as), under[n][as] == 1 ? n : -13);
            for (int as = 10; as < 15; as++) due(x.taken(3, as), -13);
        }
        due(x.taken(-1, 0), BAD);
        due(x.taken(4, 0), BAD);
        due(x.taken(3, -1), BAD);
        due(x.taken(3, 6), BAD);
        due(x.taken(3, 9), BAD);
        due(x.taken(3, 15), BAD);
        due(x.taken(0, 15), BAD);
        for (int sort = 0; sort < 5; sort++) {
            x.sheet(0, sort, 7 + sort);
            due(x.shelf(1, 1, 0), 1);
            for (int as = 10; as < 15; as++) due(x.taken(1, as), as - 10 == sort ? 7 + sort : -13);
            due(x.taken(1, 0), -13);
        }
        // the row stays there when the sheet becomes another, or missing
        x.sheet(0, 0, 3);
        due(x.taken(1, 14), 11);
        x.sheet(0, -1, 0);
        due(x.taken(1, 14), 11);
        due(x.shelf(1, 1, 0), 1);
        due(x.taken(1, 14), -11);
        // a piece is held by its number
        due(x.remake(4, 1), 5);
        due(x.taken(3, 1), 4);
        due(x.taken(3, 5), -13);
        due(x.shelf(3, 2, 0), 1);
        due(x.taken(3, 1), -11);
        DominoKin y = new DominoKin();
        y.keep();
        y.piece(1, 0, 0, 0);
        y.shelf(0, 0, 0);
        y.again();
        due(y.taken(0, 0), -11);
        due(y.act(0, 0, 1), 0);
        y.piece(2, 0, 0, 0);
        due(y.taken(0, 2), 0);
    }

    private static void acts() {
        at(48);
        DominoKin x = of(1, 0, 0, 3, 2, 0, 0, 2, 3, 0, 0, 1, 4, 0, 0, 5, 5, 0, 0, 1, 5, 0, 0, 1);
        // aunt, n 0, a 3
        x.shelf(0, 0, 0);
        acted(x, 0, 7, 70 ^ 30, 20, 10);
        acted(x, 1, 7, (70 ^ 30) + 9, 11, 20, 10);
        acted(x, 2, -15, -2, 12);
        acted(x, 3, 7, ((70 ^ 30) + 9) ^ 1, 13, 11, 20, 10, 12);
        // father, n 1, a 2
        x.shelf(0, 0, 1);
        acted(x, 0, 7, 69, 10);
        acted(x, 1, 7, 150, 30, 11, 10);
        acted(x, 2, 14, 2, 12);
        acted(x, 3, 7, 150 ^ 1, 13, 30, 11, 10, 12);
        // eldest, n 2, a 1: tips(x) = (x - 14) * 10 - 2; taps = (tips + 3) * 2
        x.shelf(0, 0, 2);
        acted(x, 0, 20, 58, 50, 10);
        acted(x, 1, 20, 122, 30, 11, 50, 10);
        acted(x, 2, 20, 6, 12);
        acted(x, 3, 20, (122 ^ 6) - (-132 + 3) * 2, 51, 13, 30, 11, 50, 10, 12, 30, 11, 50, 10);
        // girl, n 3, a 5
        x.shelf(0, 0, 3);
        acted(x, 0, 1, 7, 10);
        acted(x, 1, 1, 22, 11, 10);
        acted(x, 2, 13, 7, 40, 12);
        acted(x, 3, 13, (127 + 15) ^ 7, 13, 11, 10, 40, 12);
        // sailor, n 4, a 1: halves = x / 1 + 5 + tips(4)
        x.shelf(0, 0, 4);
        acted(x, 0, 1, 6, 10);
        acted(x, 1, 1, -9, 60, 11, 10);
        acted(x, 2, 9, 9 + 5 + 36, 61, 40, 12, 10);
        acted(x, 3, 9, -(86 + 3) ^ 50, 13, 60, 11, 10, 61, 40, 12, 10);
        // ints wrap
        acted(x, 0, Integer.MAX_VALUE, Integer.MAX_VALUE * 10 - 4, 10);
        parted(x);
        at(48);
        noActs(x);
    }

    private static void acted(DominoKin x, int act, int arg, int want, int... bodies) {
        at(48);
        due(x.act(0, act, arg), want);
        at(49);
        due(x.many(6), bodies.length);
        for (int i = 0; i < bodies.length; i++) due(x.trace(i), bodies[i]);
        due(x.trace(bodies.length), NONE);
        due(x.trace(-1), NONE);
    }

    private static void parted(DominoKin x) {
        // n 5, a 1: parted by 0; what would come behind does not run
        x.shelf(0, 0, 5);
        acted(x, 2, 9, -15, 61, 40, 12);
        acted(x, 3, 9, -15, 13, 60, 11, 10, 61, 40, 12);
        acted(x, 1, 9, -(90 - 5 + 3), 60, 11, 10);
        x.remake(5, 3);
        acted(x, 3, 9, -15, 51, 13, 30, 11, 50, 10, 12);
        // n 5, a 0: parted by -1, and the least int stays itself
        x.change(5, 3, 0);
        x.remake(5, 1);
        acted(x, 2, Integer.MIN_VALUE, Integer.MIN_VALUE, 12);
        acted(x, 2, 9, -9, 12);
        x.change(4, 3, 0);
        x.shelf(0, 0, 4);
        acted(x, 2, 0, -15, 61, 40, 12);
    }

    private static void noActs(DominoKin x) {
        x.sheet(0, 0, 3);
        x.shelf(1, 1, 0);
        x.shelf(2, 2, 0);
        int[][] none = {{-1, 0}, {4, 0}, {0, -1}, {0, 4}, {1, 0}, {2, 0}};
        for (int[] n : none) {
            x.act(0, 0, 1);
            due(x.many(6), 1);
            due(x.act(n[0], n[1], 1), 0);
            due(x.many(6), 0);
            due(x.trace(0), NONE);
        }
    }

    private static void many() {
        at(50);
        DominoKin x = of(2, 30, 0, 0, 2, 20, 4, 1);
        text(x, "aunt say; aunt say; aunt say;");
        x.feed(0, 4);
        x.change(1, 4, 1);
        for (int i = 0; i < 5; i++) x.report(1, 0, 0, 9);
        x.prove(4);
        x.shelf(0, 0, 0);
        x.act(0, 1, 1);
        int[] due = {2, 3, 1, 5, 4, 4, 3};
        for (int what = 0; what < 7; what++) due(x.many(what), due[what]);
        due(x.many(-1), BAD);
        due(x.many(7), BAD);
    }

    private static void kept() {
        at(51);
        DominoKin x = of(2, 30, 0, 0, 2, 20, 4, 1);
        text(x, "girl stand; father if lean < 99 say;");
        x.room(1, 0, 3);
        x.room(1, 1, 4);
        x.saying(3, 9);
        x.report(2, 1, 1, 2);
        x.seed(99);
        x.ends(9);
        x.year();
        due(x.keep(), 1);
        x.feed(0x61, 1);
        x.prove(2);
        x.sheet(0, 0, 5);
        x.shelf(0, 1, 0);
        x.shelf(1, 0, 1);
        x.act(1, 0, 3);
        spoil(x);
        at(52);
        due(x.again(), 2);
        asKept(x);
        due(x.judge(), 0);
        // what is not kept is as it was ahead of again
        due(x.many(5), 1);
        due(x.many(4), 2);
        due(x.item(0, 0, 0), 0);
        due(x.taken(0, 10), 5);
        due(x.taken(1, 2), 1);
        due(x.many(6), 1);
        // it stays, and the latest counts
        spoil(x);
        due(x.rules(), -100);
        due(text(x, "piece hold;"), 1);
        due(x.again(), 2);
        asKept(x);
        x.piece(1, 0, 0, 0);
        x.keep();
        x.piece(1, 0, 0, 0);
        due(x.again(), 3);
        due(x.again(), 3);
        due(new DominoKin().again(), NONE);
        // all eight rules are kept, with what they ask
        DominoKin y = of(1, 5, 5, 5);
        String seven = "girl say;girl say;girl say;girl say;girl say;girl say;";
        due(text(y, seven + "aunt if gap=4 stand;aunt if gap=5 hold;"), 8);
        y.keep();
        text(y, "aunt stand;aunt if gap < 3 say;");
        due(y.pieceOf(0, 9), 1);
        due(y.again(), 1);
        due(y.many(1), 8);
        due(y.pieceOf(0, 9), 2);
        y.change(0, 2, 4);
        due(y.pieceOf(0, 9), 1);
        y.change(0, 2, 3);
        due(y.pieceOf(0, 9), 0);
    }

    private static void spoil(DominoKin x) {
        x.change(0, 1, 77);
        x.change(0, 2, 7);
        x.change(0, 3, 4);
        x.change(0, 4, 0);
        x.remake(0, 5);
        x.piece(1, 2, 3, 4);
        x.room(1, 0, 9);
        x.room(1, 1, 9);
        x.saying(3, 1);
        x.forget();
        x.report(7, 0, 1, 2);
        x.report(7, 0, 1, 2);
        x.lot();
        x.ends(16);
    }

    private static void asKept(DominoKin x) {
        int[] first = {2, 30, 0, 0, 1, 6, 32};
        for (int what = 0; what < 7; what++) due(x.pieceOf(0, what), first[what]);
        due(x.pieceOf(1, 1), 41);
        due(x.many(0), 2);
        due(x.many(1), 2);
        due(x.pieceOf(1, 9), 0);
        due(x.roomOf(1, 0), 3);
        due(x.roomOf(1, 1), 4);
        due(x.saying(3, 9), 9);
        due(x.many(3), 1);
        due(x.seed(99), 99);
        int[] state = {1, 9, 4, 0, 1, 6, 71};
        for (int what = 0; what < 7; what++) due(x.state(what), state[what]);
    }
}
