/** The edges that the sections 1 THE STREET and 2 THE RULES name, a sentence at a time. */
public final class StreetTest extends Check {
    /** WORD 0, HUSH 3: girls and sailors lean nothing. */
    private static final int QUIET = 3;

    public static void main(String[] args) {
        endAndOver();
        sayings();
        behindYear15();
        wordsAndHushes();
        leansByYear();
        bears();
        paysFromWhatItBears();
        mayFall();
        fallsOnTheNextRoomAlone();
        fallsInTheLastRoom();
        leansOnTo99AtMost();
        whoIsFallenDoesNothing();
        holdsTo0AtLeast();
        holdsWhateverHushIs();
        standsIsNothing();
        fallsByItselfFrom12More();
        fallsAsPartTwoBegins();
        fallsByNumbers();
        leansMoreTo99AtMost();
        eightRules();
        numbers();
        namesAndBlanks();
        brackets();
        nots();
        faultsAtTheEnd();
        faultsOfOtherBytes();
        faultsByPlace();
        firstRuleThatHolds();
        inPlaceOfAll();
        factsAtTheirEdges();
        tapeIsUsedUp();
        finish();
    }

    // ---- 1 THE STREET

    private static void endAndOver() {
        at("1: END is 1 to 16 (12 at first); from END on it is OVER");
        due(new DominoKin().state(1), 12);
        for (int end = 1; end <= 16; end++) {
            DominoKin x = new DominoKin();
            due(x.ends(end), 12);
            for (int year = 0; year < end; year++) {
                due(x.state(0), year);
                due(x.state(3), 0);
                due(x.year(), 0);
            }
            due(x.state(0), end);
            due(x.state(3), 1);
            due(x.year(), STATE);
            due(x.lot(), STATE);
        }
    }

    private static void sayings() {
        at("1: YEARS 0 to 15 each have a SAYING, 6 at first");
        DominoKin x = new DominoKin();
        x.ends(16);
        for (int year = 0; year < 16; year++) {
            due(x.state(5), 6);
            due(x.saying(year, 15 - year), 6);
            due(x.state(5), 15 - year);
            x.year();
        }
    }

    private static void behindYear15() {
        at("1: behind YEAR 15 the SAYING is 0");
        DominoKin x = of(1, 0, 0, 0, 2, 0, 0, 0, 3, 0, 0, 0, 4, 0, 0, 0, 5, 0, 0, 0);
        text(x, "piece if word > 0 stand; piece hold;");
        x.ends(16);
        for (int year = 0; year < 16; year++) x.saying(year, 15);
        for (int year = 0; year < 15; year++) x.year();
        due(x.state(5), 15);
        int[] in15 = {1, 10, 12, 2, 0}, in16 = {1, 4, 6, 2, 2};
        for (int k = 0; k < 5; k++) due(x.pieceOf(k, 5), in15[k]);
        due(x.pieceOf(0, 9), 1);
        x.year();
        due(x.state(0), 16);
        due(x.state(5), 0);
        for (int k = 0; k < 5; k++) due(x.pieceOf(k, 5), in16[k]);
        due(x.pieceOf(0, 9), 2);
        x.change(0, 1, 94);
        due(x.pieceOf(0, 7), 0);
        x.change(0, 1, 95);
        due(x.pieceOf(0, 7), 4);
    }

    private static void wordsAndHushes() {
        at("1: SAYING is 4 times WORD and HUSH; girl: as piece, less HUSH (0 at least)");
        int[] girls = {2, 1, 0, 0, 3, 2, 1, 0, 4, 3, 2, 1, 5, 4, 3, 2};
        DominoKin x = of(1, 0, 0, 0, 2, 0, 0, 0, 3, 0, 0, 0, 4, 0, 0, 0, 5, 0, 0, 0);
        for (int v = 0; v < 16; v++) {
            x.saying(0, v);
            due(x.pieceOf(0, 5), 1);
            due(x.pieceOf(1, 5), 4 + v / 4 * 2);
            due(x.pieceOf(2, 5), 4 + v / 4 * 2);
            due(x.pieceOf(3, 5), girls[v]);
            due(x.pieceOf(4, 5), girls[v]);
        }
    }

    private static void leansByYear() {
        at("1: eldest: a sixth of YEAR; sailor: 0 in odd YEARS");
        DominoKin x = of(3, 0, 0, 0, 5, 0, 0, 0);
        x.ends(16);
        for (int year = 0; year < 16; year++) x.saying(year, 0);
        int[] eldest = {4, 4, 4, 4, 4, 4, 5, 5, 5, 5, 5, 5, 6, 6, 6, 6, 6};
        int[] sailor = {2, 0, 2, 0, 2, 0, 2, 0, 2, 0, 2, 0, 2, 0, 2, 0, 2};
        for (int year = 0; year <= 16; year++) {
            due(x.pieceOf(0, 5), eldest[year]);
            due(x.pieceOf(1, 5), sailor[year]);
            x.year();
        }
    }

    private static void bears() {
        at("1: BEARS, by a GAP of 0 to 9");
        int[] none = {0, 95, 32, 32, 50, 50}, most = {0, 95, 14, 23, 32, 32};
        for (int kind = 1; kind <= 5; kind++) {
            DominoKin x = of(kind, 0, 0, 0, kind, 0, 9, 0, kind, 0, 0, 0, kind, 0, 9, 0, kind, 0, 0, 0, kind, 0, 9, 0);
            for (int k = 0; k < 6; k++) {
                int itsNumber = kind == 5 ? k : 0;
                due(x.pieceOf(k, 6), (k % 2 == 0 ? none[kind] : most[kind]) + itsNumber);
            }
        }
    }

    private static void paysFromWhatItBears() {
        at("1: PAYS: LEAN and 6 for each of WORD together are what it BEARS, or more");
        int[] bears = {0, 95, 32, 32, 50, 50};
        for (int kind = 1; kind <= 5; kind++) {
            for (int word = 0; word <= 3; word++) {
                DominoKin x = of(kind, bears[kind] - 6 * word, 0, 0);
                x.saying(0, 4 * word + 3);
                due(x.pieceOf(0, 7), 4);
                x.change(0, 1, bears[kind] - 6 * word + 1);
                due(x.pieceOf(0, 7), 4);
                x.change(0, 1, bears[kind] - 6 * word - 1);
                due(x.pieceOf(0, 7), 0);
            }
        }
        at("1: PAYS: 4 and GAP, if it is not FALLEN");
        DominoKin x = of(2, 99, 0, 0);
        for (int gap = 0; gap <= 9; gap++) {
            x.change(0, 2, gap);
            due(x.pieceOf(0, 7), 4 + gap);
        }
        x.change(0, 4, 1);
        due(x.pieceOf(0, 7), 0);
        x.change(0, 4, 0);
        due(x.pieceOf(0, 7), 13);
    }

    private static void mayFall() {
        at("1: MAY fall: its WILL is to say, and it PAYS more than 0");
        DominoKin x = of(2, 26, 0, 0, 2, 25, 0, 0);
        due(x.pieceOf(0, 8), 1);
        due(x.pieceOf(1, 8), 0);
        text(x, "piece stand;");
        due(x.pieceOf(0, 8), 0);
        text(x, "piece hold;");
        due(x.pieceOf(0, 8), 0);
        text(x, "piece say;");
        due(x.pieceOf(0, 8), 1);
        x.change(0, 4, 1);
        due(x.pieceOf(0, 8), 0);
    }

    private static void fallsOnTheNextRoomAlone() {
        at("1: IT FALLS: LEAN of all that aren't, in the ROOM of 1 more, is 12 and the STAIR of that ROOM more");
        for (int room = 0; room < 5; room++) {
            DominoKin x = of(2, 40, 0, room, 4, 10, 0, Math.max(0, room - 1), 4, 10, 0, room, 4, 10, 0, room + 1,
                4, 10, 0, room + 1, 4, 10, 0, room < 4 ? room + 2 : 0);
            x.saying(0, QUIET);
            x.room(room, 0, 7);
            x.room(room + 1, 0, room);
            x.change(4, 4, 1);
            due(tell(x, 1), 4);
            int[] leans = {40, 10, 10, 22 + room, 10, 10};
            for (int k = 0; k < 6; k++) due(x.pieceOf(k, 1), leans[k]);
            due(x.state(4), 17);
        }
    }

    private static void fallsInTheLastRoom() {
        at("1: behind ROOM 5 there is none");
        DominoKin x = of(2, 40, 0, 5, 4, 10, 0, 0, 4, 10, 0, 1, 4, 10, 0, 4, 4, 10, 0, 5);
        x.saying(0, QUIET);
        for (int f = 0; f < 6; f++) x.room(f, 0, 9);
        due(tell(x, 1), 4);
        int[] leans = {40, 10, 10, 10, 10};
        for (int k = 0; k < 5; k++) due(x.pieceOf(k, 1), leans[k]);
        due(x.state(4), 1);
    }

    private static void leansOnTo99AtMost() {
        at("1: IT FALLS: 99 at most");
        int[] stairs = {9, 9, 9, 9, 0, 0, 0}, before = {77, 78, 79, 99, 86, 87, 88}, behind = {98, 99, 99, 99, 98, 99, 99};
        for (int i = 0; i < before.length; i++) {
            // the girl falls by herself in the same year, so that nothing is added behind it
            DominoKin x = of(2, 40, 0, 0, 4, before[i], 0, 1);
            x.room(1, 0, stairs[i]);
            due(tell(x, 1), 5);
            due(x.pieceOf(1, 1), behind[i]);
        }
    }

    private static void whoIsFallenDoesNothing() {
        at("1: (1) if a PIECE is told, and is not FALLEN");
        String[] rules = {"", "piece hold;", "piece stand;", "piece say;"};
        for (String r : rules) {
            DominoKin x = of(2, 40, 0, 0, 4, 10, 0, 1);
            text(x, r);
            x.saying(0, QUIET);
            x.change(0, 4, 1);
            due(tell(x, 1), 0);
            due(x.pieceOf(0, 1), 40);
            due(x.pieceOf(1, 1), 10);
            due(x.state(0), 1);
        }
    }

    private static void holdsTo0AtLeast() {
        at("1: hold: LEAN is 10 and the HAND of its ROOM less (0 at least)");
        int[] hands = {0, 0, 0, 0, 9, 9, 9, 9}, before = {11, 10, 9, 0, 20, 19, 18, 0}, behind = {1, 0, 0, 0, 1, 0, 0, 0};
        for (int i = 0; i < before.length; i++) {
            DominoKin x = of(4, before[i], 0, 3);
            for (int f = 0; f < 6; f++) x.room(f, 1, 5);
            x.room(3, 1, hands[i]);
            x.saying(0, QUIET);
            text(x, "girl hold;");
            due(tell(x, 1), 1);
            due(x.pieceOf(0, 1), behind[i]);
        }
    }

    private static void holdsWhateverHushIs() {
        at("1: hold: whatever HUSH is; WORTH 1, if HUSH is above 1");
        int[] worth = {0, 0, 1, 1};
        for (int v = 0; v < 16; v++) {
            DominoKin x = of(1, 50, 0, 0);
            x.saying(0, v);
            text(x, "aunt hold;");
            due(tell(x, 1), worth[v % 4]);
            due(x.pieceOf(0, 1), 41);
            due(x.state(4), 0);
        }
    }

    private static void standsIsNothing() {
        at("1: stand: nothing; say: WORTH what it PAYS; if that is more than 0, IT FALLS");
        DominoKin x = of(2, 40, 0, 0, 4, 10, 0, 1);
        x.saying(0, QUIET);
        text(x, "father stand;");
        due(tell(x, 1), 0);
        due(x.pieceOf(0, 1), 44);
        due(x.pieceOf(1, 1), 10);
        due(x.state(4), 0);
        DominoKin y = of(2, 31, 0, 0, 4, 10, 0, 1);
        y.saying(0, QUIET);
        due(tell(y, 1), 0);
        due(y.pieceOf(0, 1), 35);
        due(y.pieceOf(1, 1), 10);
        due(y.state(4), 0);
    }

    private static void fallsByItselfFrom12More() {
        at("1: (2) LEAN is 12 more than they BEAR, or above");
        int[] kinds = {2, 2, 3, 3, 4, 4, 5, 5}, gaps = {0, 9, 0, 9, 0, 9, 0, 9}, bears = {32, 14, 32, 23, 50, 32, 50, 32};
        for (int i = 0; i < kinds.length; i++) {
            for (int more = 11; more <= 13; more++) {
                DominoKin x = of(kinds[i], bears[i] + more, gaps[i], 0);
                due(tell(x, 0), more < 12 ? 0 : 1);
                due(x.state(4), more < 12 ? 0 : 1);
            }
        }
        // an aunt bears 95: 107 is more than any LEAN
        DominoKin aunt = of(1, 99, 0, 0);
        due(tell(aunt, 0), 0);
        due(aunt.state(4), 0);
        // a sailor bears its number more
        DominoKin sailors = of(5, 61, 0, 0, 5, 62, 0, 0, 5, 64, 0, 0, 5, 64, 0, 0, 5, 66, 0, 0, 5, 67, 0, 0);
        due(tell(sailors, 0), 3);
        due(sailors.state(4), 4 + 16 + 32);
    }

    private static void fallsAsPartTwoBegins() {
        at("1: (2) all by all as (2) begins");
        // a fall in (1) counts: 32 and 12 are 44
        DominoKin x = of(2, 40, 0, 0, 2, 32, 0, 1);
        due(tell(x, 1), 5);
        due(x.state(4), 3);
        DominoKin y = of(2, 40, 0, 0, 2, 31, 0, 1);
        due(tell(y, 1), 4);
        due(y.state(4), 1);
        // a fall in (2) doesn't, whichever number comes first
        DominoKin z = of(2, 43, 0, 1, 2, 44, 0, 0, 2, 43, 0, 1);
        due(tell(z, 0), 1);
        due(z.state(4), 2);
        due(z.pieceOf(0, 1), 61);
        due(z.pieceOf(2, 1), 61);
        due(tell(z, 0), 2);
        // a hold in (1) counts as well
        DominoKin held = of(2, 53, 0, 0, 2, 54, 0, 0);
        text(held, "piece hold;");
        due(tell(held, 1), 2);
        due(held.state(4), 2);
    }

    private static void fallsByNumbers() {
        at("1: (2) FALL by numbers, WORTH 1 each");
        DominoKin x = of(2, 50, 0, 0, 2, 50, 0, 1);
        due(tell(x, 0), 2);
        due(x.pieceOf(0, 1), 50);
        due(x.pieceOf(1, 1), 62);
        // the one that is leaned on is FALLEN already
        DominoKin y = of(2, 50, 0, 1, 2, 50, 0, 0);
        due(tell(y, 0), 2);
        due(y.pieceOf(0, 1), 50);
        due(y.pieceOf(1, 1), 50);
        DominoKin six = of(2, 99, 0, 0, 2, 99, 0, 1, 2, 99, 0, 2, 2, 99, 0, 3, 2, 99, 0, 4, 2, 99, 0, 5);
        due(tell(six, 0), 6);
        due(six.state(4), 63);
        due(six.state(2), 6);
    }

    private static void leansMoreTo99AtMost() {
        at("1: (3) LEAN of each that isn't FALLEN is what it LEANS more (99 at most); YEAR is 1 more");
        DominoKin x = of(1, 97, 0, 0, 1, 98, 0, 0, 1, 99, 0, 0, 1, 5, 0, 0);
        x.change(3, 4, 1);
        x.saying(0, 0);
        due(tell(x, 0), 0);
        int[] behind = {98, 99, 99, 5};
        for (int k = 0; k < 4; k++) due(x.pieceOf(k, 1), behind[k]);
        due(x.state(0), 1);
        // who falls in that year doesn't lean more
        DominoKin y = of(2, 44, 0, 0, 2, 40, 0, 0);
        due(tell(y, 2), 5);
        due(y.pieceOf(0, 1), 44);
        due(y.pieceOf(1, 1), 40);
    }

    // ---- 2 THE RULES

    private static int read(String rules) {
        return text(new DominoKin(), rules);
    }

    private static void faultAt(int place, String rules) {
        due(read(rules), -100 - place);
    }

    private static void eightRules() {
        at("2: 8 RULES at most; the first NAME of the ninth is a FAULT");
        String one = "girl say;";
        due(read(""), 0);
        for (int n = 1; n <= 8; n++) due(read(one.repeat(n)), n);
        due(read(one.repeat(8) + "  "), 8);
        faultAt(72, one.repeat(9));
        faultAt(74, one.repeat(8) + "  " + one);
        faultAt(72, one.repeat(8) + ";");
        faultAt(72, one.repeat(8) + "say;");
        faultAt(72, one.repeat(8) + "9");
        faultAt(72, one.repeat(8) + "aunt");
        // an earlier fault is the first one
        faultAt(68, one.repeat(7) + "girl girl;" + one);
    }

    private static void numbers() {
        at("2: N are NUMBERS 0 to 9999, rows of 1 to 4 digits");
        String[] good = {"0", "9", "00", "99", "000", "999", "0000", "9999"};
        for (String n : good) due(read("aunt if lean<" + n + " say;"), 1);
        String[] long5 = {"00000", "00001", "10000", "99999", "000000", "2147483648", "4294967297"};
        for (String n : long5) {
            faultAt(13, "aunt if lean<" + n + " say;");
            faultAt(8, "aunt if " + n + "<lean say;");
        }
        DominoKin x = of(1, 99, 0, 0);
        text(x, "aunt if lean < 9999 and 0000 < lean and 0099 = lean hold;");
        due(x.pieceOf(0, 9), 2);
        // 9999 is not any fact, nor cut
        text(x, "aunt if 9999 = 9999 and 9999 > 9998 and not 9999 = 99 hold;");
        due(x.pieceOf(0, 9), 2);
        // 0 on both sides, by each sign
        text(x, "aunt if 0=0 hold;");
        due(x.pieceOf(0, 9), 2);
        text(x, "aunt if 0<0 or 0>0 hold;");
        due(x.pieceOf(0, 9), 0);
        text(x, "aunt if 0<0 or 0<0 hold;");
        due(x.pieceOf(0, 9), 0);
        text(x, "aunt if 0<0 hold; aunt if 1=1 and 0<0 hold; aunt if not 0<0 stand;");
        due(x.pieceOf(0, 9), 1);
    }

    private static void namesAndBlanks() {
        at("2: NAMES and NUMBERS are as long as they go; blanks part them, and stand elsewhere as one likes");
        due(read("  aunt   if(  not( 1<2)and not 3 =4 )or year>5   hold  ;   "), 1);
        due(read("aunt if 1<2hold;girl if lean=9and gap=1or word=2say;"), 2);
        due(read("aunt hold;girl stand;"), 2);
        faultAt(0, "au nt say;");
        faultAt(0, "auntsay;");
        faultAt(5, "aunt sayhold;");
        faultAt(5, "aunt ifyear=1 say;");
        faultAt(8, "aunt if notyear=1 say;");
        faultAt(10, "aunt if 1 2=3 say;");
        faultAt(12, "aunt if 1=1 1 say;");
        faultAt(0, "a");
        faultAt(0, "aun");
        faultAt(0, "aunts say;");
        faultAt(0, "aunta");
    }

    private static void brackets() {
        at("2: at most 3 \"(\" are open within one another");
        due(read("aunt if (1=1) say;"), 1);
        due(read("aunt if ((1=1)) say;"), 1);
        due(read("aunt if (((1=1))) say;"), 1);
        faultAt(11, "aunt if ((((1=1)))) say;");
        faultAt(11, "aunt if ((((");
        due(read("aunt if (((1=1)))and(((1=1)))or(((1=1))) say;"), 1);
        due(read("aunt if ((1=1)and(1=1)and((1=1))) say;"), 1);
        faultAt(26, "aunt if (1=1 or (2=2 or ( (3=3)))) say;");
        faultAt(11, "aunt if 1=1) say;");
        faultAt(13, "aunt if (1=1)) say;");
        faultAt(13, "aunt if (1=1 say;");
        faultAt(9, "aunt if () say;");
    }

    private static void nots() {
        at("2: ONE: { not } (..): none, one, and many");
        for (int n = 0; n <= 45; n++) {
            DominoKin x = of(1, 0, 0, 0);
            due(text(x, "aunt if " + "not ".repeat(n) + "1=1 hold;"), 1);
            due(x.pieceOf(0, 9), n % 2 == 0 ? 2 : 0);
        }
        faultAt(12, "aunt if not say;");
        faultAt(11, "aunt if not");
        faultAt(12, "aunt if 1=1 not 1=1 say;");
    }

    private static void faultsAtTheEnd() {
        at("2: FAULT: or the end (how many bytes there are), if more must come");
        String whole = "aunt if not (year < 5 or gap = 1) and 2 > word hold;";
        // places at which a NAME or NUMBER is cut in two: what is left of it is another one
        for (int size = 1; size < whole.length(); size++) {
            String part = whole.substring(0, size);
            boolean cut = Character.isLetter(whole.charAt(size - 1)) && Character.isLetter(whole.charAt(size));
            if (!cut) faultAt(size, part);
            if (!cut) faultAt(size + 3, part + "   ");
        }
        due(read(whole), 1);
        // the tape is full, and more must come
        faultAt(200, "aunt say" + " ".repeat(192));
        faultAt(200, " ".repeat(196) + "aunt");
        due(read(" ".repeat(191) + "aunt say;"), 1);
        due(read(" ".repeat(200)), 0);
        faultAt(199, " ".repeat(199) + ";");
    }

    private static void faultsOfOtherBytes() {
        at("2: FAULT: other byte that can't stand there");
        String letters = "abcdefghijklmnopqrstuvwxyz0123456789;()<=> ";
        for (int b = 0; b < 256; b++) {
            if (letters.indexOf(b) >= 0) continue;
            faultAt(0, (char) b + "aunt say;");
            faultAt(4, "aunt" + (char) b + " say;");
            faultAt(9, "aunt say;" + (char) b);
            faultAt(8, "aunt if " + (char) b + "1=1 say;");
        }
        // the bytes next to letters, digits and signs
        for (char c : "`{/:@[!'*;".toCharArray()) faultAt(9, "aunt if 1" + c + "=1 say;");
        faultAt(0, "Aunt say;");
        faultAt(5, "aunt Say;");
    }

    private static void faultsByPlace() {
        at("2: FAULT: the first NAME, NUMBER or other byte that can't stand there");
        String[] kinds = {"piece", "aunt", "father", "eldest", "girl", "sailor"}, dos = {"say", "stand", "hold"};
        String[] values = {"year", "lean", "gap", "word", "number", "7"}, signs = {"<", "=", ">"};
        String[] all = {"piece", "aunt", "father", "eldest", "girl", "sailor", "say", "stand", "hold", "if", "or", "and",
            "not", "year", "lean", "gap", "word", "number", "7", "<", "=", ">", "(", ")", ";", "zz", "12345", "#"};
        for (String t : all) {
            boolean kind = isOne(t, kinds), doing = isOne(t, dos), value = isOne(t, values), sign = isOne(t, signs);
            stands(t, kind, "");
            stands(t, doing || t.equals("if"), "aunt ");
            stands(t, t.equals(";"), "aunt say ");
            stands(t, kind, "aunt say; ");
            stands(t, value || t.equals("not") || t.equals("("), "aunt if ");
            stands(t, value || t.equals("not") || t.equals("("), "aunt if not ");
            stands(t, value || t.equals("not") || t.equals("("), "aunt if ( ");
            stands(t, sign, "aunt if 1 ");
            stands(t, value, "aunt if 1 = ");
            stands(t, doing || t.equals("or") || t.equals("and"), "aunt if 1 = 1 ");
            stands(t, t.equals(")") || t.equals("or") || t.equals("and"), "aunt if ( 1 = 1 ");
            stands(t, doing || t.equals("or") || t.equals("and"), "aunt if ( 1 = 1 ) ");
            stands(t, value || t.equals("not") || t.equals("("), "aunt if 1 = 1 or ");
            stands(t, value || t.equals("not") || t.equals("("), "aunt if 1 = 1 and ");
        }
    }

    private static boolean isOne(String t, String[] all) {
        for (String s : all) if (s.equals(t)) return true;
        return false;
    }

    /** If it can stand behind what is ahead of it, the fault is the end, as more must come in all these. */
    private static void stands(String t, boolean can, String ahead) {
        boolean whole = can && t.equals(";");
        if (whole) due(read(ahead + t), 1);
        else faultAt(can ? ahead.length() + t.length() : ahead.length(), ahead + t);
    }

    private static void firstRuleThatHolds() {
        at("1: the first of THE RULES whose KIND is its or above it, and whose condition holds, tells it; say, if none");
        DominoKin x = of(1, 0, 0, 0, 2, 0, 0, 0, 3, 0, 0, 0, 4, 0, 0, 0, 5, 0, 0, 0);
        String[] names = {"piece", "aunt", "father", "eldest", "girl", "sailor"};
        int[] told = {11111, 10000, 1100, 100, 11, 1};
        for (int kind = 0; kind <= 5; kind++) {
            text(x, names[kind] + " stand;");
            due(wills(x), told[kind]);
        }
        text(x, "piece if 1=2 hold;");
        due(wills(x), 0);
        text(x, "eldest say; father stand; piece hold;");
        due(wills(x), 21022);
        text(x, "piece say; piece hold;");
        due(wills(x), 0);
        // the eighth tells as well
        text(x, "aunt if 1=2 hold;".repeat(7) + "girl stand;");
        due(wills(x), 11);
    }

    private static void inPlaceOfAll() {
        at("13 rules: in place of all, however often");
        DominoKin x = of(1, 0, 7, 0);
        for (int i = 0; i < 19; i++) {
            due(text(x, "aunt if gap=8" + " or gap=8".repeat(15) + " or gap=" + (7 + i % 2) + " hold;"), 1);
            due(x.pieceOf(0, 9), i % 2 == 0 ? 2 : 0);
            due(x.many(1), 1);
        }
        due(text(x, "aunt stand;"), 1);
        due(x.pieceOf(0, 9), 1);
        due(text(x, ""), 0);
        due(x.pieceOf(0, 9), 0);
    }

    private static int wills(DominoKin x) {
        int all = 0;
        for (int k = 0; k < 5; k++) all = all * 10 + x.pieceOf(k, 9);
        return all;
    }

    private static void factsAtTheirEdges() {
        at("2: SIGN: < | = | >, on both sides of each FACT");
        DominoKin x = of(1, 0, 0, 0, 1, 41, 7, 0);
        x.saying(1, 8);
        x.year();
        // behind a year: YEAR 1, LEAN 42, GAP 7, WORD 2, number 1
        String[] facts = {"year", "lean", "gap", "word", "number"};
        int[] values = {1, 42, 7, 2, 1};
        for (int i = 0; i < 5; i++) {
            for (int by = -1; by <= 1; by++) {
                int n = values[i] + by;
                holds(x, by > 0, facts[i] + "<" + n);
                holds(x, by == 0, facts[i] + "=" + n);
                holds(x, by < 0, facts[i] + ">" + n);
                holds(x, by < 0, n + "<" + facts[i]);
                holds(x, by == 0, n + "=" + facts[i]);
                holds(x, by > 0, n + ">" + facts[i]);
            }
        }
        holds(x, true, "year=number and word<gap and gap<lean");
    }

    private static void holds(DominoKin x, boolean want, String condition) {
        due(text(x, "aunt if " + condition + " hold;"), 1);
        due(x.pieceOf(1, 9), want ? 2 : 0);
    }

    private static void tapeIsUsedUp() {
        at("2: THE TAPE takes bytes, 200 at most; rules() uses it up");
        DominoKin x = new DominoKin();
        feedAll(x, "aunt say;" + " ".repeat(191));
        due(x.many(5), 200);
        due(x.feed(32, 1), FULL);
        due(x.rules(), 1);
        due(x.many(5), 0);
        due(x.rules(), 0);
        due(x.many(1), 0);
        feedAll(x, "c");
        due(x.rules(), -100);
        due(x.many(5), 0);
        feedAll(x, " ".repeat(200));
        due(x.many(5), 200);
    }
}
