/** The edges that the promises 1 to 36 name: the last number that is taken on both sides, nothing, and as many as may be. */
public final class EdgeTest extends Check {
    public static void main(String[] args) {
        newObject();
        pieces();
        piecesOf();
        changes();
        remakes();
        sayings();
        rooms();
        ends();
        anew();
        states();
        feeds();
        lastYear();
        onTo16();
        whenAtTheEdges();
        gapsForTheRest();
        roomsForTheRest();
        itselfAtTheEdges();
        leastWords();
        waves();
        chains();
        plansOfNothing();
        plansOfFewerYears();
        firstOfTheBest();
        waysOfMost();
        waysOfHolds();
        asItIsNow();
        lines();
        bars();
        games();
        plays();
        reportsTaken();
        forgets();
        loneByLeastAndMost();
        loneByYears();
        loneTo99();
        lonePaid();
        liars();
        seeds();
        lotsThatWrap();
        times();
        finish();
    }

    /** Four girls of one room who each pay 9, and don't fall by themselves for years. */
    private static DominoKin fourGirls() {
        return of(4, 40, 5, 0, 4, 40, 5, 0, 4, 40, 5, 0, 4, 40, 5, 0);
    }

    private static DominoKin sixAunts() {
        return of(1, 0, 0, 0, 1, 0, 0, 0, 1, 0, 0, 0, 1, 0, 0, 0, 1, 0, 0, 0, 1, 0, 0, 0);
    }

    /** One year more in which nobody is told, and then it is OVER. */
    private static DominoKin over(DominoKin x) {
        x.ends(x.state(0) + 1);
        tell(x, 0);
        return x;
    }

    // ---- the street, pieces

    private static void newObject() {
        at("1: No PIECES, RULES, REPORTS; nothing is kept");
        for (int what = 0; what <= 6; what++) due(new DominoKin().many(what), 0);
        int[] state = {0, 12, 0, 0, 0, 6, 0};
        for (int what = 0; what <= 6; what++) due(new DominoKin().state(what), state[what]);
        due(new DominoKin().again(), NONE);
        due(new DominoKin().rules(), 0);
        due(new DominoKin().year(), 0);
        due(new DominoKin().lot(), 0);
        due(new DominoKin().on(16), 0);
        due(new DominoKin().chains(-1), 0);
        due(new DominoKin().forget(), 0);
        due(new DominoKin().lone(0), 500);
        due(new DominoKin().liar(), NONE);
        due(new DominoKin().judge(), 0);
        due(new DominoKin().trace(0), NONE);
        due(new DominoKin().seed(0), 1);
        due(new DominoKin().times(40, 0), 40);
        due(new DominoKin().times(40, 1), 0);
        for (int i = 0; i < 4; i++) {
            due(new DominoKin().write(i, 0, 0), NOTHING);
            due(new DominoKin().taken(i, 0), NOTHING);
            due(new DominoKin().act(i, 0, 7), 0);
            due(new DominoKin().row(i, 0), -9);
        }
    }

    private static void pieces() {
        at("2 piece: a KIND 1 to 5, LEAN 0 to 99, a GAP 0 to 9, a ROOM 0 to 5");
        for (int kind = 1; kind <= 5; kind++) {
            DominoKin x = new DominoKin();
            due(x.piece(kind, 0, 0, 0), 0);
            due(x.piece(kind, 99, 9, 5), 1);
            int[] low = {kind, 0, 0, 0, 0}, high = {kind, 99, 9, 5, 0};
            for (int what = 0; what <= 4; what++) {
                due(x.pieceOf(0, what), low[what]);
                due(x.pieceOf(1, what), high[what]);
            }
        }
        at("1: PIECES, 6 at most, numbered as they come");
        DominoKin x = new DominoKin();
        for (int k = 0; k < 6; k++) {
            due(x.many(0), k);
            due(x.piece(1, k, k, k), k);
        }
        due(x.many(0), 6);
        due(x.piece(1, 9, 9, 0), FULL);
        for (int k = 0; k < 6; k++) due(x.pieceOf(k, 1), k);
        // neither is one that is FALLEN out of the way
        x.change(0, 4, 1);
        due(x.piece(1, 0, 0, 0), FULL);
        // a piece may come in any year, and isn't FALLEN at first
        DominoKin y = of(2, 99, 0, 0);
        y.ends(1);
        y.year();
        due(y.piece(2, 99, 0, 0), 1);
        due(y.state(4), 1);
    }

    private static void piecesOf() {
        at("3 pieceOf: of a PIECE: what = 0 .. 9");
        for (int count = 0; count <= 6; count++) {
            DominoKin x = new DominoKin();
            for (int k = 0; k < count; k++) x.piece(1, 50 + k, k, k);
            for (int k = 0; k < 6; k++) due(x.pieceOf(k, 1), k < count ? 50 + k : BAD);
        }
        at("3 pieceOf: what it LEANS now (FALLEN or not); what it BEARS; PAYS; WILL");
        DominoKin x = of(3, 99, 9, 0);
        x.change(0, 4, 1);
        int[] fallen = {3, 99, 9, 0, 1, 6, 23, 0, 0, 0};
        for (int what = 0; what <= 9; what++) due(x.pieceOf(0, what), fallen[what]);
        x.change(0, 4, 0);
        due(x.pieceOf(0, 7), 13);
        due(x.pieceOf(0, 8), 1);
        // OVER is no bar to being asked
        x.ends(1);
        x.year();
        x.change(0, 4, 0);
        due(x.pieceOf(0, 7), 13);
        due(x.pieceOf(0, 8), 1);
    }

    private static void changes() {
        at("4 change: LEAN, GAP, ROOM, FALLEN becomes v: what it was");
        int[] most = {0, 99, 9, 5, 1};
        for (int what = 1; what <= 4; what++) {
            DominoKin x = of(1, 0, 0, 0, 1, 0, 0, 0);
            for (int k = 0; k < 2; k++) {
                due(x.change(k, what, most[what]), 0);
                due(x.change(k, what, most[what]), most[what]);
                due(x.change(k, what, 0), most[what]);
                due(x.change(k, what, 0), 0);
                due(x.pieceOf(1 - k, what), 0);
            }
        }
        at("4 change: FALLEN: it leans on nobody by that");
        DominoKin x = of(2, 40, 0, 0, 4, 10, 0, 1);
        x.change(0, 4, 1);
        due(x.pieceOf(1, 1), 10);
        due(x.pieceOf(0, 1), 40);
        due(x.state(2), 0);
        at("4 change: a GAP is borne at once");
        x.change(1, 2, 9);
        due(x.pieceOf(1, 6), 32);
    }

    private static void remakes() {
        at("5 remake: becomes one of another KIND (1 to 5): the KIND that it was");
        int[] bears = {0, 95, 22, 27, 40, 41};
        for (int from = 1; from <= 5; from++) {
            for (int to = 1; to <= 5; to++) {
                DominoKin x = of(1, 0, 0, 0, from, 70, 5, 4);
                x.change(1, 4, 1);
                due(x.remake(1, to), from);
                int[] now = {to, 70, 5, 4, 1};
                for (int what = 0; what <= 4; what++) due(x.pieceOf(1, what), now[what]);
                due(x.pieceOf(1, 6), bears[to]);
            }
        }
    }

    private static void sayings() {
        at("6 saying: of a YEAR (0 to 15) becomes v (0 to 15): what it was");
        DominoKin x = new DominoKin();
        for (int year = 0; year <= 15; year++) {
            due(x.saying(year, 0), 6);
            due(x.saying(year, 15), 0);
            due(x.saying(year, year), 15);
        }
        for (int year = 0; year <= 15; year++) due(x.saying(year, 1), year);
        // of years gone by too
        x.year();
        due(x.saying(0, 2), 1);
    }

    private static void rooms() {
        at("7 room: STAIR, HAND (0 to 9) of ROOMS 0 to 5 becomes v: what it was; 8 roomOf");
        DominoKin x = new DominoKin();
        for (int f = 0; f < 6; f++) {
            for (int what = 0; what < 2; what++) {
                due(x.roomOf(f, what), 0);
                due(x.room(f, what, 9), 0);
                due(x.roomOf(f, what), 9);
                due(x.room(f, what, f + 3 * what), 9);
            }
        }
        for (int f = 0; f < 6; f++) {
            due(x.roomOf(f, 0), f);
            due(x.roomOf(f, 1), f + 3);
        }
    }

    private static void ends() {
        at("9 ends: STATE: v is below YEAR");
        for (int year = 0; year <= 16; year++) {
            DominoKin x = new DominoKin();
            x.ends(16);
            for (int y = 0; y < year; y++) x.year();
            int end = 16;
            for (int v = 1; v <= 16; v++) {
                due(x.ends(v), v < year ? STATE : end);
                if (v >= year) end = v;
                due(x.state(1), end);
                due(x.state(3), year >= end ? 1 : 0);
            }
            due(x.state(0), year);
        }
    }

    private static void anew() {
        at("10 anew: YEAR is 0 again, SCORE 0, none is FALLEN (LEAN stays): what YEAR was");
        DominoKin x = of(2, 99, 0, 0, 2, 99, 0, 1, 1, 5, 0, 1);
        due(x.anew(), 0);
        x.ends(2);
        x.saying(0, 9);
        due(x.year(), 5);
        due(x.year(), 0);
        due(x.state(3), 1);
        due(x.anew(), 2);
        int[] state = {0, 2, 0, 0, 0, 9, 99 + 99 + 19};
        for (int what = 0; what <= 6; what++) due(x.state(what), state[what]);
        due(x.anew(), 0);
        due(x.many(0), 3);
    }

    private static void states() {
        at("11 state: LEAN of all together; PIECES that are FALLEN, as a set");
        DominoKin x = of(1, 99, 0, 0, 1, 99, 0, 0, 1, 99, 0, 0, 1, 99, 0, 0, 1, 99, 0, 0, 1, 99, 0, 0);
        due(x.state(6), 594);
        for (int k = 0; k < 6; k++) {
            x.change(k, 4, 1);
            due(x.state(4), (2 << k) - 1);
        }
        due(x.state(6), 594);
        for (int k = 0; k < 6; k++) {
            x.change(k, 4, 0);
            due(x.state(4), 63 - ((2 << k) - 1));
        }
    }

    // ---- the rules

    private static void feeds() {
        at("12 feed: n bytes (1 to 8), the lowest of eight first: how many it has");
        String[] texts = {"c", " c", "  c", "   c", "    c", "     c", "      c", "       c"};
        for (int n = 1; n <= 8; n++) {
            DominoKin x = new DominoKin();
            long eight = 0x2020202020202020L & ~(255L << 8 * (n - 1)) | (long) 'c' << 8 * (n - 1);
            // bytes behind the n lowest count nothing
            if (n < 8) eight |= -1L << 8 * n;
            due(x.feed(eight, n), n);
            due(x.many(5), n);
            due(x.rules(), -100 - texts[n - 1].length() + 1);
        }
        DominoKin y = new DominoKin();
        // -1 is eight bytes of 255
        due(y.feed(-1L, 8), 8);
        due(y.feed(Long.MIN_VALUE, 8), 16);
        due(y.rules(), -100);
        due(y.feed(Long.MIN_VALUE | 0x20202020202020L, 8), 8);
        due(y.rules(), -107);
        at("12 feed: FULL: more than 200");
        for (int n = 1; n <= 8; n++) {
            DominoKin x = new DominoKin();
            int has = 0;
            while (has + n <= 200) {
                has += n;
                due(x.feed(0x2020202020202020L, n), has);
            }
            due(x.feed(-1L, n), FULL);
            if (has < 200) due(x.feed(0x2020202020202020L, 200 - has), 200);
            due(x.feed(-1L, 1), FULL);
            due(x.many(5), 200);
            due(x.rules(), 0);
        }
    }

    // ---- years

    private static void lastYear() {
        at("14 year: as in THE REST: the least PIECE that MAY fall; none, if there is none");
        DominoKin x = fourGirls();
        x.change(0, 4, 1);
        x.change(1, 1, 20);
        due(x.year(), 9);
        due(x.state(4), 1 + 4);
        due(x.year(), 9);
        due(x.state(4), 1 + 4 + 8);
        due(x.year(), 0);
        due(x.state(2), 18);
        at("14 year: STATE: it is OVER");
        DominoKin y = fourGirls();
        y.ends(1);
        due(y.year(), 9);
        due(y.year(), STATE);
        y.ends(2);
        due(y.year(), 9);
        due(y.year(), STATE);
        due(y.state(2), 18);
    }

    private static void onTo16() {
        at("15 on: n (0 to 16) YEARS (fewer, if it is OVER)");
        DominoKin x = fourGirls();
        x.ends(16);
        int[] worth = {0, 9, 18, 27, 36, 36};
        for (int n = 0; n <= 16; n++) due(x.on(n), worth[Math.min(n, 5)]);
        for (int end = 1; end <= 5; end++) {
            x.ends(end);
            for (int n = 0; n <= 16; n++) due(x.on(n), worth[Math.min(n, end)]);
        }
        x.ends(1);
        x.year();
        for (int n = 0; n <= 16; n++) due(x.on(n), 0);
        // the sixteenth counts: a girl of 35, who bears 38, is bent at 50, in YEAR 15
        DominoKin y = of(4, 35, 6, 1);
        text(y, "piece stand;");
        y.ends(16);
        due(y.on(15), 0);
        due(y.on(16), 1);
    }

    private static void whenAtTheEdges() {
        at("16 when: NONE (also if it is now)");
        DominoKin x = fourGirls();
        for (int k = 0; k < 4; k++) due(x.when(k), k);
        x.ends(3);
        due(x.when(2), 2);
        due(x.when(3), NONE);
        x.change(0, 4, 1);
        due(x.when(0), NONE);
        due(x.when(1), 0);
        due(x.when(3), 2);
        x.year();
        due(x.when(2), 1);
        x.ends(1);
        for (int k = 0; k < 4; k++) due(x.when(k), NONE);
    }

    private static void gapsForTheRest() {
        at("17 gapFor: WORTH most; of several the least");
        // an aunt who pays by any gap: most by 9
        DominoKin x = of(1, 99, 4, 0);
        due(x.gapFor(0), 9);
        due(x.pieceOf(0, 2), 4);
        due(x.pieceOf(0, 6), 95);
        // one who never does: all gaps are alike
        x.change(0, 1, 0);
        due(x.gapFor(0), 0);
        x.change(0, 1, 99);
        x.ends(1);
        due(x.gapFor(0), 9);
        x.year();
        due(x.gapFor(0), 0);
        // father and girl in the same year: he alone is told, she falls by herself if she bears little
        DominoKin y = of(2, 40, 0, 0, 4, 48, 0, 1);
        y.ends(1);
        // 60 is 12 more than she bears from a gap of 1 on
        due(y.gapFor(1), 1);
        due(y.pieceOf(1, 2), 0);
        // sixteen years count: a girl of 11 leans 26 in YEAR 15, and pays by the widest gap alone
        DominoKin z = of(4, 11, 0, 0);
        z.ends(16);
        due(z.gapFor(0), 9);
        z.ends(15);
        due(z.gapFor(0), 0);
        // what another one pays in YEAR 15 counts by each gap, the least too
        DominoKin w = of(1, 0, 5, 0, 4, 17, 6, 0);
        w.ends(16);
        due(w.on(15), 0);
        due(w.on(16), 10);
        due(w.gapFor(0), 0);
        due(w.roomFor(0), 0);
    }

    private static void roomsForTheRest() {
        at("18 roomFor: ROOM likewise");
        for (int room = 0; room < 6; room++) {
            DominoKin x = of(2, 40, 0, room, 4, 50, 0, 0);
            x.ends(1);
            // she falls by herself in the next room
            due(x.roomFor(1), room < 5 ? room + 1 : 0);
            due(x.pieceOf(1, 3), 0);
            // likewise he had best be in the room ahead of hers
            x.change(1, 3, room);
            due(x.roomFor(0), room > 0 ? room - 1 : 0);
            due(x.pieceOf(0, 3), room);
            x.year();
            due(x.roomFor(1), 0);
        }
        // sixteen years count: the aunt pays in YEAR 14, and leans on the girl, who pays in YEAR 15 by that
        DominoKin y = of(1, 75, 0, 2, 4, 20, 0, 0);
        y.ends(16);
        due(y.roomFor(1), 3);
        due(y.roomFor(0), 0);
        y.change(1, 3, 5);
        due(y.roomFor(0), 4);
        y.ends(15);
        due(y.roomFor(1), 0);
        due(y.roomFor(0), 0);
    }

    // ---- which falls by itself when, what word it takes, how far a fall goes, chains

    private static void itselfAtTheEdges() {
        at("19 itself: NONE (also if it is FALLEN now)");
        DominoKin x = of(2, 44, 0, 0, 2, 43, 0, 0, 4, 50, 0, 1);
        due(x.itself(0), 0);
        due(x.itself(1), 1);
        // leaned on by both, behind (2) of the years 0 and 1: 50, 63, 76: she falls in YEAR 1
        due(x.itself(2), 1);
        x.ends(1);
        due(x.itself(0), 0);
        due(x.itself(1), NONE);
        x.change(0, 4, 1);
        due(x.itself(0), NONE);
        x.change(0, 4, 0);
        x.year();
        for (int k = 0; k < 3; k++) due(x.itself(k), NONE);
        x.ends(2);
        due(x.itself(1), 1);
    }

    private static void leastWords() {
        at("20 least: the least WORD (0 to 3); NONE: it is FALLEN, or with none");
        int[] bears = {0, 95, 32, 32, 50, 50};
        for (int kind = 1; kind <= 5; kind++) {
            for (int under = -1; under <= 19; under++) {
                DominoKin x = of(kind, bears[kind] - under, 0, 0);
                int word = under <= 0 ? 0 : (under + 5) / 6;
                due(x.least(0), word > 3 ? NONE : word);
                text(x, "piece stand;");
                due(x.least(0), word > 3 ? NONE : word);
                x.saying(0, 15);
                due(x.least(0), word > 3 ? NONE : word);
                x.change(0, 4, 1);
                due(x.least(0), NONE);
            }
        }
        // OVER is no bar
        DominoKin y = of(4, 50, 0, 0);
        due(over(y).least(0), 0);
    }

    private static void waves() {
        at("21 wave: by n (0 to 16) YEARS (fewer, if it is OVER), as a set");
        DominoKin x = of(1, 0, 0, 0, 2, 32, 0, 1, 2, 32, 0, 2, 2, 32, 0, 3, 2, 32, 0, 4, 2, 32, 0, 5);
        for (int y = 0; y < 16; y++) x.saying(y, 0);
        x.ends(16);
        // each bears 44, and is leaned on behind the (2) of the year ahead of it; 32, 36, 40, 44: by itself in YEAR 3
        int[] sets = {1, 3, 7, 15, 63, 63};
        for (int n = 0; n <= 16; n++) due(x.wave(0, n), sets[Math.min(n, 5)]);
        for (int end = 1; end <= 4; end++) {
            x.ends(end);
            for (int n = 0; n <= 16; n++) due(x.wave(0, n), sets[Math.min(n, end)]);
        }
        due(x.wave(5, 0), 32);
        x.change(0, 4, 1);
        due(x.wave(0, 0), 1);
        due(x.wave(0, 2), 1);
        x.change(0, 4, 0);
        over(x);
        for (int n = 0; n <= 16; n++) due(x.wave(0, n), 1);
        // the sixteenth year counts
        DominoKin y = of(1, 0, 0, 0, 4, 35, 6, 5);
        y.ends(16);
        due(y.wave(0, 15), 1);
        due(y.wave(0, 16), 3);
        at("3: WAVE: in which nobody is told");
        DominoKin z = of(2, 40, 0, 0, 1, 0, 0, 3, 2, 40, 0, 5);
        due(z.wave(1, 1), 2);
        due(z.itself(0), 1);
    }

    private static void chains() {
        at("22 chains: of the same ROOM, or of two next to each other");
        for (int a = 0; a < 6; a++) {
            for (int b = 0; b < 6; b++) {
                DominoKin x = of(1, 0, 0, a, 1, 0, 0, b);
                boolean close = a - b <= 1 && b - a <= 1;
                due(x.chains(-1), close ? 1 : 2);
                due(x.chains(0), close ? 3 : 1);
                due(x.chains(1), close ? 3 : 2);
            }
        }
        at("22 chains: 0: it is FALLEN");
        DominoKin x = of(1, 0, 0, 0, 1, 0, 0, 1, 1, 0, 0, 2);
        x.change(1, 4, 1);
        due(x.chains(-1), 2);
        due(x.chains(0), 1);
        due(x.chains(1), 0);
        due(x.chains(2), 4);
        x.change(0, 4, 1);
        x.change(2, 4, 1);
        due(x.chains(-1), 0);
        for (int k = 0; k < 3; k++) due(x.chains(k), 0);
        due(x.chains(3), BAD);
        at("22 chains: how many: none, and most");
        due(new DominoKin().chains(-1), 0);
        due(of(1, 0, 0, 0, 1, 0, 0, 2, 1, 0, 0, 4).chains(-1), 3);
        due(of(1, 0, 0, 1, 1, 0, 0, 3, 1, 0, 0, 5).chains(-1), 3);
        due(sixAunts().chains(5), 63);
    }

    // ---- plans

    private static void plansOfNothing() {
        at("23 to 27: PLANS of no PIECES, and of 0 YEARS");
        DominoKin none = new DominoKin();
        for (int n = 0; n <= 4; n++) {
            due(none.best(n), 0);
            due(none.ways(n), 1);
            due(none.line(n, 0), 0);
            due(none.bars(n, 0), NONE);
            for (int i = 0; i <= 3; i++) due(none.ith(n, i), i < n ? 0 : NONE);
        }
        DominoKin x = fourGirls();
        due(x.best(0), 0);
        due(x.ways(0), 1);
        due(x.prove(0), 0);
        due(x.line(0, 0), 0);
        due(x.line(0, 1), NONE);
        due(x.bars(0, 15), 0);
    }

    private static void plansOfFewerYears() {
        at("3: a PLAN of n: n YEARS (fewer, if it is OVER)");
        int[] ways = {1, 4, 12, 24, 24};
        for (int years = 1; years <= 5; years++) {
            DominoKin x = fourGirls();
            x.ends(years);
            for (int n = 0; n <= 4; n++) {
                int length = Math.min(n, years);
                due(x.best(n), 9 * length);
                due(x.ways(n), ways[length]);
                for (int i = 0; i <= 3; i++) due(x.ith(n, i), i < length ? i + 1 : NONE);
                due(x.prove(n), length);
                due(x.many(4), length);
            }
        }
        DominoKin over = over(fourGirls());
        for (int n = 0; n <= 4; n++) {
            due(over.best(n), 0);
            due(over.ways(n), 1);
            due(over.ith(n, 0), NONE);
            due(over.prove(n), 0);
        }
    }

    private static void firstOfTheBest() {
        at("3: the FIRST is that with the lesser ACT where they are unlike first");
        // the last of four alone pays, in any of the years: 0 0 0 4
        DominoKin x = of(1, 0, 0, 0, 1, 0, 0, 0, 1, 0, 0, 0, 4, 40, 5, 0);
        for (int n = 1; n <= 4; n++) {
            for (int i = 0; i < n; i++) due(x.ith(n, i), i == n - 1 ? 4 : 0);
            due(x.best(n), 9);
        }
    }

    private static void waysOfMost() {
        at("25 ways: how many of them there are: all of them");
        int[] all = {1, 7, 49, 343, 2401};
        DominoKin x = sixAunts();
        DominoKin held = sixAunts();
        text(held, "piece hold;");
        for (int y = 0; y < 16; y++) held.saying(y, 1);
        for (int n = 0; n <= 4; n++) {
            due(x.ways(n), all[n]);
            due(held.ways(n), all[n]);
            due(x.best(n), 0);
        }
        // FALLEN ones are told as well
        for (int k = 0; k < 6; k++) x.change(k, 4, 1);
        due(x.ways(4), 2401);
    }

    private static void waysOfHolds() {
        at("3: WORTH of a hold: who pays nothing may be told all the same");
        int[] all = {1, 6, 36, 216, 1296};
        DominoKin x = sixAunts();
        text(x, "piece hold;");
        for (int n = 0; n <= 4; n++) {
            due(x.ways(n), all[n]);
            due(x.best(n), n);
            for (int i = 0; i < n; i++) due(x.ith(n, i), 1);
        }
        // the other one tells nobody
        int[] value = {0, 1, 1, 2, 2};
        for (int n = 1; n <= 4; n++) {
            due(x.game(n), value[n]);
            due(x.play(n), 1);
        }
        // who is held leans less, and falls later
        DominoKin y = of(2, 40, 0, 0, 4, 50, 0, 1);
        text(y, "father hold; piece stand;");
        for (int year = 0; year < 4; year++) y.saying(year, 0);
        // 44 in YEAR 1, if he isn't held: then he falls, and leans on her
        due(y.line(1, 1), NONE);
        due(y.line(2, 1), 0);
        due(y.line(3, 3), 0);
        due(y.bars(2, 3), 1);
        due(y.best(2), 1);
        due(y.ways(2), 4);
        due(y.game(2), 0);
    }

    private static void asItIsNow() {
        at("3: each is asked as it is now, not as it was when something was asked");
        DominoKin x = over(fourGirls());
        x.ends(12);
        for (int k = 0; k < 4; k++) x.change(k, 1, 0);
        due(x.best(4), 0);
        x.change(2, 1, 50);
        due(x.ways(1), 1);
        x.change(3, 1, 50);
        due(x.line(2, 12), 2);
        x.change(3, 1, 0);
        due(x.bars(1, 12), 3);
        x.change(3, 1, 50);
        due(x.ith(1, 0), 3);
        x.change(2, 4, 1);
        due(x.ith(1, 0), 4);
        x.change(3, 2, 9);
        due(x.game(1), 13);
        x.change(3, 4, 1);
        due(x.play(1), 0);
        due(x.game(1), 0);
        due(fourGirls().ways(4), 24);
        due(fourGirls().ith(4, 3), 4);
        due(fourGirls().line(4, 15), 4);
        due(fourGirls().bars(4, 15), NONE);
        due(fourGirls().game(4), 18);
        due(fourGirls().play(4), 1);
        due(fourGirls().prove(4), 4);
        due(fourGirls().best(4), 36);
    }

    private static void lines() {
        at("26 line: the fewest ACTS that aren't 0: none, and most");
        DominoKin x = fourGirls();
        int[] bits = {0, 1, 1, 2, 1, 2, 2, 3, 1, 2, 2, 3, 2, 3, 3, 4};
        for (int n = 0; n <= 4; n++) {
            for (int set = 0; set < 16; set++) due(x.line(n, set), bits[set] <= n ? bits[set] : NONE);
        }
        at("26 line: PLANS are shorter, if it is OVER");
        x.ends(2);
        for (int set = 0; set < 16; set++) due(x.line(4, set), bits[set] <= 2 ? bits[set] : NONE);
        x.ends(1);
        x.change(0, 4, 1);
        due(x.line(4, 1), 0);
        due(x.line(0, 1), 0);
        due(x.line(4, 3), 1);
        due(x.line(4, 7), NONE);
        at("26 line: a set of PIECES (of such as there are)");
        for (int count = 0; count <= 6; count++) {
            DominoKin y = new DominoKin();
            for (int k = 0; k < count; k++) {
                y.piece(1, 0, 0, 0);
                y.change(k, 4, 1);
            }
            due(y.line(4, (1 << count) - 1), 0);
            due(y.line(4, 1 << count), BAD);
            due(y.bars(4, (1 << count) - 1), NONE);
            due(y.bars(4, 1 << count), BAD);
        }
    }

    private static void bars() {
        at("27 bars: the least of them that is so behind no PLAN of n; NONE: each is so behind some");
        DominoKin x = fourGirls();
        x.piece(1, 0, 0, 0);
        x.piece(1, 0, 0, 0);
        for (int n = 0; n <= 4; n++) {
            due(x.bars(n, 0), NONE);
            due(x.bars(n, 15), n == 0 ? 0 : NONE);
            due(x.bars(n, 12), n == 0 ? 2 : NONE);
            due(x.bars(n, 63), n == 0 ? 0 : 4);
            due(x.bars(n, 32), 5);
        }
        x.change(0, 4, 1);
        due(x.bars(0, 15), 1);
        due(x.bars(0, 1), NONE);
        over(x);
        due(x.bars(4, 1), NONE);
        due(x.bars(4, 63), 1);
    }

    // ---- a game, strangers, lots

    private static void games() {
        at("28 game: of n (1 to 4), till it is OVER");
        DominoKin x = fourGirls();
        // the other one tells nobody
        int[] value = {0, 9, 9, 18, 18};
        for (int n = 1; n <= 4; n++) due(x.game(n), value[n]);
        for (int end = 1; end <= 4; end++) {
            x.ends(end);
            for (int n = 1; n <= 4; n++) due(x.game(n), value[Math.min(n, end)]);
        }
        over(x);
        for (int n = 1; n <= 4; n++) {
            due(x.game(n), 0);
            due(new DominoKin().game(n), 0);
            due(sixAunts().game(n), 0);
        }
        at("28 game: in turn: all that is told counts, whoever told it");
        // 11, 10, 9 and 8 to be had in one room; the aunts pay nothing
        DominoKin z = of(4, 40, 7, 0, 4, 40, 6, 0, 4, 40, 5, 0, 1, 0, 0, 0, 4, 42, 4, 0);
        int[] three = {0, 11, 11, 21, 21};
        for (int n = 1; n <= 4; n++) due(z.game(n), three[n]);
        // none but one is left, who falls by herself in YEAR 2, WORTH 1: the other one can but let it be
        DominoKin w = of(4, 60, 0, 0);
        text(w, "girl if year=0 stand; girl if year>1 stand;");
        // told in YEAR 1 she pays 4, by the other one, who doesn't
        due(w.game(1), 0);
        due(w.game(2), 0);
        due(w.game(3), 1);
        due(w.play(3), 0);
        at("28 game: the other one wants as little");
        // a girl of 61 leans 62 in YEAR 1, and would fall by herself: WORTH 1; held, she leans 52
        DominoKin y = of(4, 61, 0, 0);
        text(y, "girl if year=1 hold; piece stand;");
        y.saying(0, 11);
        y.saying(1, 1);
        due(y.game(2), 0);
        // by a HUSH of 2 that is WORTH 1 as well
        y.saying(1, 2);
        due(y.game(2), 1);
    }

    private static void plays() {
        at("29 play: the least ACT by which who begins comes to it; NONE: it is OVER");
        DominoKin x = fourGirls();
        for (int n = 1; n <= 4; n++) due(x.play(n), 1);
        x.change(0, 4, 1);
        for (int n = 1; n <= 4; n++) due(x.play(n), 2);
        x.change(1, 1, 0);
        x.change(2, 1, 0);
        for (int n = 1; n <= 2; n++) due(x.play(n), 4);
        // by three she may as well wait
        due(x.play(3), 0);
        x.ends(1);
        due(x.play(4), 4);
        x.year();
        for (int n = 1; n <= 4; n++) due(x.play(n), NONE);
        due(new DominoKin().play(4), 0);
        DominoKin y = of(1, 0, 0, 0, 1, 0, 0, 0, 1, 0, 0, 0, 1, 0, 0, 0, 1, 0, 0, 0, 4, 40, 5, 0);
        due(y.play(1), 6);
    }

    private static void reportsTaken() {
        at("30 report: k 0 to 15, asked 0, 1, LEAST to MOST (0 to 99; 0 to 16); its number");
        int[][] good = {{0, 0, 0, 0}, {15, 0, 99, 99}, {0, 0, 0, 99}, {0, 1, 0, 0}, {15, 1, 16, 16}, {15, 1, 0, 16}};
        DominoKin x = new DominoKin();
        for (int i = 0; i < 6; i++) {
            due(x.many(3), i);
            due(x.report(good[i][0], good[i][1], good[i][2], good[i][3]), i);
        }
        due(x.report(0, 0, 0, 0), FULL);
        due(x.many(3), 6);
        x.forget();
        due(x.report(0, 0, 98, 99), 0);
        due(x.report(0, 1, 15, 16), 1);
        due(x.report(0, 0, 17, 17), 2);
    }

    private static void forgets() {
        at("31 forget: there are no REPORTS: how many there were");
        DominoKin x = new DominoKin();
        for (int n = 0; n <= 6; n++) {
            for (int i = 0; i < n; i++) x.report(0, 0, 9, 9);
            due(x.forget(), n);
            due(x.many(3), 0);
            due(x.lone(0), 500);
        }
        due(x.report(0, 0, 0, 0), 0);
    }

    private static int fit(int... reports) {
        DominoKin x = new DominoKin();
        for (int i = 0; i < reports.length; i += 4) x.report(reports[i], reports[i + 1], reports[i + 2], reports[i + 3]);
        return x.lone(0);
    }

    private static void loneByLeastAndMost() {
        at("3: a REPORT: from LEAST to MOST; LEAN at first (0, 9, .. 81)");
        for (int lean = 0; lean <= 99; lean++) {
            due(fit(0, 0, lean, lean), lean % 9 == 0 && lean <= 81 ? 50 : 0);
            due(fit(0, 0, 0, lean), 50 * (Math.min(lean, 81) / 9 + 1));
            due(fit(0, 0, lean, 99), lean > 81 ? 0 : 500 - 50 * ((lean + 8) / 9));
        }
        at("32 lone: how many: none, all; NONE: there are none");
        due(fit(), 500);
        due(fit(0, 0, 0, 99), 500);
        DominoKin x = new DominoKin();
        x.report(0, 0, 82, 99);
        due(x.lone(0), 0);
        for (int what = 1; what <= 3; what++) due(x.lone(what), NONE);
        at("32 lone: of that with the least KIND, of these the least GAP, of these the least LEAN");
        DominoKin y = new DominoKin();
        y.report(0, 0, 70, 81);
        int[] first = {100, 1, 0, 72};
        for (int what = 0; what <= 3; what++) due(y.lone(what), first[what]);
    }

    private static void loneByYears() {
        at("3: behind k YEARS (0 to 15; from YEAR 0 on)");
        // an aunt leans 1 a year
        for (int k = 0; k <= 15; k++) {
            DominoKin x = new DominoKin();
            for (int y = 0; y < 16; y++) x.saying(y, 12);
            // father 10 a year and more, girl 5, sailor 5 in even years: an aunt is the least in any but the first
            x.report(k, 0, k, k);
            due(x.lone(0), k == 0 ? 50 : 10);
            due(x.lone(1), 1);
            due(x.lone(3), 0);
        }
        at("3: behind 15 YEARS the SAYING of YEAR 14 counts, that of YEAR 15 doesn't; END and YEAR don't");
        DominoKin x = new DominoKin();
        x.report(15, 0, 90, 90);
        // father from 0: 15 times 6
        due(x.lone(0), 10);
        due(x.lone(1), 2);
        x.saying(15, 15);
        due(x.lone(1), 2);
        x.ends(1);
        x.year();
        due(x.lone(0), 10);
        // father 92 now; a sailor from 81 leans 1 in seven years, and 2 in YEAR 14
        x.saying(14, 10);
        due(x.lone(0), 10);
        due(x.lone(1), 5);
    }

    private static void loneTo99() {
        at("3: a LONE PIECE: LEAN is 99 at most; it never FALLS");
        // father and eldest from 81: 81, 87, 93, 99, 99; from 72: 96 behind four years
        due(fit(2, 0, 94, 99), 0);
        due(fit(3, 0, 98, 98), 0);
        due(fit(3, 0, 99, 99), 20);
        due(fit(4, 0, 99, 99), 20);
        due(fit(4, 0, 96, 96), 20);
        due(fit(5, 0, 99, 99), 40);
        // a father leans 90 by then: from 9 at first on; an eldest 102: all of them
        due(fit(15, 0, 99, 99), 90 + 100);
    }

    private static void lonePaid() {
        at("3: in how many YEARS it would have PAID more than 0, ahead of leaning more (0 to 16)");
        due(fit(0, 1, 0, 0), 500);
        due(fit(0, 1, 1, 16), 0);
        due(fit(15, 1, 0, 15), 500);
        due(fit(15, 1, 16, 16), 0);
        // in all the years: an aunt would need 89 at first, a father by a gap of 0 needs 26
        DominoKin x = new DominoKin();
        x.report(15, 1, 15, 15);
        due(x.lone(1), 2);
        due(x.lone(2), 0);
        due(x.lone(3), 27);
        at("3: a LONE PIECE's number is 0");
        DominoKin y = new DominoKin();
        y.saying(0, 0);
        y.report(0, 0, 36, 36);
        y.report(1, 1, 1, 1);
        y.report(2, 0, 38, 38);
        // a sailor bears 36 by a gap of 7
        due(y.lone(0), 3);
        due(y.lone(1), 5);
        due(y.lone(2), 7);
        // of 45 it pays by what it bears from a gap of 3 on: 46 by a gap of 2 is 1 too much
        y.forget();
        y.report(0, 0, 45, 45);
        y.report(1, 1, 1, 1);
        y.report(2, 0, 47, 47);
        due(y.lone(0), 7);
        due(y.lone(1), 5);
        due(y.lone(2), 3);
    }

    private static void liars() {
        at("33 liar: NONE: some FIT; or there is no such REPORT");
        due(new DominoKin().liar(), NONE);
        for (int wrong = 0; wrong < 6; wrong++) {
            DominoKin x = new DominoKin();
            for (int i = 0; i < 6; i++) x.report(0, 0, i == wrong ? 18 : 9, i == wrong ? 18 : 9);
            due(x.liar(), wrong);
        }
        // one alone, which none FITS
        DominoKin x = new DominoKin();
        x.report(0, 0, 1, 8);
        due(x.liar(), 0);
        x.report(0, 0, 0, 99);
        due(x.liar(), 0);
        x.report(0, 0, 1, 8);
        due(x.liar(), NONE);
        // two against each other: either, so the least
        DominoKin y = new DominoKin();
        y.report(0, 0, 0, 99);
        y.report(0, 0, 9, 9);
        y.report(0, 0, 18, 18);
        due(y.liar(), 1);
    }

    private static void seeds() {
        at("34 seed: z (an int; 1 at first) becomes v: what it was");
        DominoKin x = new DominoKin();
        int[] all = {0, -1, MOST_INT, LEAST_INT, 1};
        int was = 1;
        for (int v : all) {
            due(x.seed(v), was);
            was = v;
        }
    }

    private static void lotsThatWrap() {
        at("3: z (an int) becomes z * 1103515245 + 12345");
        int[] before = {0, 1, -1, MOST_INT, LEAST_INT};
        int[] behind = {12345, 1103527590, -1103502900, 1043980748, -2147471303};
        for (int i = 0; i < before.length; i++) {
            DominoKin x = new DominoKin();
            x.seed(before[i]);
            due(x.lot(), 0);
            due(x.seed(0), behind[i]);
        }
        at("3: the ACT is what z >>> 16 leaves by how many PIECES there are and 1");
        // z >>> 16 is 32768: by 7 it leaves 1, by 3 it leaves 2
        DominoKin six = of(2, 40, 0, 0, 1, 0, 0, 0, 1, 0, 0, 0, 1, 0, 0, 0, 1, 0, 0, 0, 1, 0, 0, 0);
        six.seed(LEAST_INT);
        due(six.lot(), 4);
        due(six.state(4), 1);
        DominoKin two = of(1, 0, 0, 0, 2, 40, 0, 0);
        two.seed(LEAST_INT);
        due(two.lot(), 4);
        due(two.state(4), 2);
        // 12345 >>> 16 is 0: none is told
        DominoKin one = of(2, 40, 0, 0);
        one.seed(0);
        due(one.lot(), 0);
        due(one.state(0), 1);
        at("35 lot: STATE: it is OVER");
        one.ends(1);
        due(one.lot(), STATE);
        due(one.seed(0), 12345);
        one.ends(2);
        so(one.lot() >= 0, "a year is left");
        due(one.lot(), STATE);
    }

    private static void times() {
        at("36 times: n (1 to 40) times; WORTH v (0 to 999) or more");
        DominoKin x = of(2, 44, 0, 0, 2, 44, 0, 0);
        text(x, "piece stand;");
        for (int n = 1; n <= 40; n++) {
            // both fall by themselves, whoever is told
            due(x.times(n, 0), n);
            due(x.times(n, 1), n);
            due(x.times(n, 2), n);
            due(x.times(n, 3), 0);
            due(x.times(n, 999), 0);
        }
        at("36 times: all YEARS yet; none, if it is OVER");
        over(x);
        for (int n = 1; n <= 40; n++) {
            due(x.times(n, 0), n);
            due(x.times(n, 1), 0);
        }
    }
}
