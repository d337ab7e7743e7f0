import java.util.Arrays;

/** A street of families who stand dominoes: pieces that lean, fall, and lean on the next room. */
public final class DominoKin {
    public static final int BAD = -1, FULL = -2, NONE = -3, STATE = -4;

    private static final int NO_ROW = -9, NOTHING = -11, OUTSIDE = -12, OTHER_SORT = -13;
    private static final int BELOW_ZERO = -14, PARTED_BY_ZERO = -15, FAULTS = -100;

    private static final int MOST_PIECES = 6, MOST_KIND = 5, ROOMS = 6, SAYINGS = 16, MOST_END = 16;
    private static final int MOST_LEAN = 99, MOST_GAP = 9, MOST_SAYING = 15, MOST_STAIR = 9;
    private static final int MOST_BYTES = 200, MOST_PLAN = 4, MOST_TIMES = 40, MOST_VALUE = 999;
    private static final int MOST_REPORTS = 6, MOST_REPORT_YEAR = 15, MOST_PAID = 16, LEAN_STEP = 9, MOST_FIRST_LEAN = 81;
    private static final int SHEETS = 4, SHELVES = 4, MOST_ITEMS = 40, MOST_ACTS_OF_SHEET = 20, MOST_TRACED = 30;

    private static final int CHANGE_LEAN = 1, CHANGE_GAP = 2, CHANGE_ROOM = 3, CHANGE_FALLEN = 4;
    private static final int SAY = 0, STAND = 1, HOLD = 2;
    private static final int BYTES = 0, SHORTS = 1, BOOLEANS = 4, MISSING = -1;
    private static final int EMPTY = -1, A_PIECE = 0, FIRST_ROW = 10;
    private static final int ROW_ACT = 0, ROW_WORTH = 1, ROW_FALLEN = 2, ROW_PARTS = 3;

    /** Bit j of entry i: KIND j is KIND i or above it. */
    private static final int[] LINEAGE = {1, 3, 5, 13, 17, 49};

    private final Piece[] kinds = {new Piece(), new Aunt(), new Father(), new Eldest(), new Girl(), new Sailor()};
    private final Street street = new Street(kinds);
    private final Street keptStreet = new Street(kinds);
    private boolean kept = false;
    private final Planner planner = new Planner(street);
    private final Moment scratch = new Moment();

    private final byte[] tape = new byte[MOST_BYTES];
    private int tapeSize = 0;
    private RuleBook spareBook = new RuleBook();

    private final int[][] rows = new int[MOST_PLAN][ROW_PARTS];
    private int rowCount = 0;

    private final int[] sheetSort = new int[SHEETS];
    private final int[] sheetSize = new int[SHEETS];
    private final int[][] sheetItems = new int[SHEETS][MOST_ITEMS];
    /** EMPTY, A_PIECE, or FIRST_ROW and the sort of a row. */
    private final int[] shelfHolds = new int[SHELVES];
    /** The number of the piece, or the size of the row: a row stays what it was when its sheet gets another. */
    private final int[] shelfNumber = new int[SHELVES];
    /** The thing whose act came latest; null if there is no trace. */
    private Piece latest = null;

    public DominoKin() {
        Arrays.fill(sheetSort, MISSING);
        Arrays.fill(shelfHolds, EMPTY);
    }

    // ---- the street, pieces

    public int piece(int kind, int lean, int gap, int room) {
        if (!within(kind, 1, MOST_KIND) || !within(lean, 0, MOST_LEAN)) return BAD;
        if (!within(gap, 0, MOST_GAP) || !within(room, 0, ROOMS - 1)) return BAD;
        if (street.count >= MOST_PIECES) return FULL;
        return street.add(kind, lean, gap, room);
    }

    public int pieceOf(int k, int what) {
        if (!street.isPiece(k)) return BAD;
        Moment now = street.now;
        switch (what) {
            case 0: return street.kind[k];
            case 1: return now.lean[k];
            case 2: return street.gap[k];
            case 3: return street.room[k];
            case 4: return now.isFallen(k) ? 1 : 0;
            case 5: return street.leansMore(now, k);
            case 6: return street.bears[k];
            case 7: return street.pays(now, k);
            case 8: return street.mayFall(now, k) ? 1 : 0;
            case 9: return street.will(now, k);
            default: return BAD;
        }
    }

    public int change(int k, int what, int v) {
        if (!street.isPiece(k)) return BAD;
        switch (what) {
            case CHANGE_LEAN: return within(v, 0, MOST_LEAN) ? replace(street.now.lean, k, v) : BAD;
            case CHANGE_GAP: return within(v, 0, MOST_GAP) ? street.setGap(k, v) : BAD;
            case CHANGE_ROOM: return within(v, 0, ROOMS - 1) ? replace(street.room, k, v) : BAD;
            case CHANGE_FALLEN: return within(v, 0, 1) ? street.now.setFallen(k, v) : BAD;
            default: return BAD;
        }
    }

    public int remake(int k, int kind) {
        if (!street.isPiece(k) || !within(kind, 1, MOST_KIND)) return BAD;
        return street.setKind(k, kind);
    }

    public int saying(int year, int v) {
        if (!within(year, 0, SAYINGS - 1) || !within(v, 0, MOST_SAYING)) return BAD;
        return replace(street.sayings, year, v);
    }

    public int room(int f, int what, int v) {
        if (!within(f, 0, ROOMS - 1) || !within(what, 0, 1) || !within(v, 0, MOST_STAIR)) return BAD;
        return replace(what == 0 ? street.stairs : street.hands, f, v);
    }

    public int roomOf(int f, int what) {
        if (!within(f, 0, ROOMS - 1) || !within(what, 0, 1)) return BAD;
        return what == 0 ? street.stairs[f] : street.hands[f];
    }

    public int ends(int v) {
        if (!within(v, 1, MOST_END)) return BAD;
        if (v < street.now.year) return STATE;
        int was = street.end;
        street.end = v;
        return was;
    }

    public int anew() {
        int was = street.now.year;
        street.now.year = 0;
        street.now.fallen = 0;
        street.score = 0;
        return was;
    }

    public int state(int what) {
        Moment now = street.now;
        switch (what) {
            case 0: return now.year;
            case 1: return street.end;
            case 2: return street.score;
            case 3: return street.isOver(now) ? 1 : 0;
            case 4: return now.fallen;
            case 5: return street.sayingOf(now.year);
            case 6: return street.leanOfAll(now);
            default: return BAD;
        }
    }

    // ---- the rules

    public int feed(long eight, int n) {
        if (!within(n, 1, 8)) return BAD;
        if (tapeSize + n > MOST_BYTES) return FULL;
        for (int i = 0; i < n; i++) {
            tape[tapeSize] = (byte) (eight >> (8 * i));
            tapeSize++;
        }
        return tapeSize;
    }

    public int rules() {
        int answer = spareBook.readText(tape, tapeSize);
        tapeSize = 0;
        if (answer < 0) return answer;
        RuleBook read = spareBook;
        spareBook = street.book;
        street.book = read;
        return answer;
    }

    // ---- years

    public int year() {
        if (street.isOver(street.now)) return STATE;
        return goOn(street.leastWilling(street.now));
    }

    public int on(int n) {
        if (!within(n, 0, MOST_END)) return BAD;
        return restWorth(n);
    }

    public int when(int k) {
        if (!street.isPiece(k)) return BAD;
        return firstFallen(k, true);
    }

    public int gapFor(int k) {
        if (!street.isPiece(k)) return BAD;
        return bestFor(k, CHANGE_GAP, MOST_GAP);
    }

    public int roomFor(int k) {
        if (!street.isPiece(k)) return BAD;
        return bestFor(k, CHANGE_ROOM, ROOMS - 1);
    }

    // ---- which falls by itself when, what word it takes, how far a fall goes, chains

    public int itself(int k) {
        if (!street.isPiece(k)) return BAD;
        return firstFallen(k, false);
    }

    public int least(int k) {
        if (!street.isPiece(k)) return BAD;
        if (street.now.isFallen(k)) return NONE;
        for (int word = 0; word <= 3; word++) {
            if (street.now.lean[k] + 6 * word >= street.bears[k]) return word;
        }
        return NONE;
    }

    public int wave(int k, int n) {
        if (!street.isPiece(k) || !within(n, 0, MOST_END)) return BAD;
        scratch.take(street.now);
        if (!scratch.isFallen(k)) street.fall(scratch, k);
        for (int i = 0; i < n && !street.isOver(scratch); i++) street.passYear(scratch, 0);
        return scratch.fallen;
    }

    public int chains(int what) {
        if (what == -1) return countChains();
        if (!street.isPiece(what)) return BAD;
        return street.chainOf(what);
    }

    // ---- plans

    public int best(int n) {
        if (!within(n, 0, MOST_PLAN)) return BAD;
        planner.start();
        return planner.bestFrom(0, n);
    }

    public int ith(int n, int i) {
        if (!within(n, 0, MOST_PLAN) || !within(i, 0, MOST_PLAN - 1)) return BAD;
        if (i >= planLength(n)) return NONE;
        planner.start();
        planner.bestFrom(0, n);
        return planner.firstActs[0][i];
    }

    public int ways(int n) {
        if (!within(n, 0, MOST_PLAN)) return BAD;
        planner.start();
        planner.bestFrom(0, n);
        return planner.waysFrom[0];
    }

    public int line(int n, int pieces) {
        if (!within(n, 0, MOST_PLAN) || !street.isSet(pieces)) return BAD;
        planner.start();
        int fewest = planner.fewestFrom(0, n, pieces);
        return fewest > MOST_PLAN ? NONE : fewest;
    }

    public int bars(int n, int pieces) {
        if (!within(n, 0, MOST_PLAN) || !street.isSet(pieces)) return BAD;
        planner.start();
        int never = pieces & ~planner.reachFrom(0, n);
        return leastOf(never);
    }

    // ---- a game, strangers, lots

    public int game(int n) {
        if (!within(n, 1, MOST_PLAN)) return BAD;
        planner.start();
        return planner.gameFrom(0, n);
    }

    public int play(int n) {
        if (!within(n, 1, MOST_PLAN)) return BAD;
        if (street.isOver(street.now)) return NONE;
        planner.start();
        planner.gameFrom(0, n);
        return planner.firstActs[0][0];
    }

    public int report(int k, int asked, int least, int most) {
        if (!within(k, 0, MOST_REPORT_YEAR) || !within(asked, 0, 1)) return BAD;
        int bound = asked == 0 ? MOST_LEAN : MOST_PAID;
        if (!within(least, 0, bound) || !within(most, least, bound)) return BAD;
        if (street.reports.count >= MOST_REPORTS) return FULL;
        return street.reports.add(k, asked, least, most);
    }

    public int forget() {
        int were = street.reports.count;
        street.reports.count = 0;
        return were;
    }

    public int lone(int what) {
        if (!within(what, 0, 3)) return BAD;
        Reports reports = street.reports;
        reports.search(street);
        if (what == 0) return reports.fitting;
        if (reports.fitting == 0) return NONE;
        if (what == 1) return reports.firstKind;
        return what == 2 ? reports.firstGap : reports.firstLean;
    }

    public int liar() {
        Reports reports = street.reports;
        reports.search(street);
        return reports.fitting > 0 ? NONE : leastOf(reports.suspects);
    }

    public int seed(int v) {
        int was = street.z;
        street.z = v;
        return was;
    }

    public int lot() {
        if (street.isOver(street.now)) return STATE;
        street.z = nextLot(street.z);
        return goOn(street.actByLot(street.z));
    }

    public int times(int n, int v) {
        if (!within(n, 1, MOST_TIMES) || !within(v, 0, MOST_VALUE)) return BAD;
        int z = street.z;
        int enough = 0;
        for (int i = 0; i < n; i++) {
            scratch.take(street.now);
            int worth = 0;
            for (int y = 0; y < MOST_END && !street.isOver(scratch); y++) {
                z = nextLot(z);
                worth += street.passYear(scratch, street.actByLot(z));
            }
            if (worth >= v) enough++;
        }
        return enough;
    }

    // ---- rows

    public int prove(int n) {
        if (!within(n, 0, MOST_PLAN)) return BAD;
        planner.start();
        planner.bestFrom(0, n);
        rowCount = planLength(n);
        scratch.take(street.now);
        for (int i = 0; i < rowCount; i++) {
            int act = planner.firstActs[0][i];
            rows[i][ROW_ACT] = act;
            rows[i][ROW_WORTH] = street.passYear(scratch, act);
            rows[i][ROW_FALLEN] = scratch.fallen;
        }
        return rowCount;
    }

    public int row(int k, int what) {
        if (!within(k, 0, rowCount - 1) || !within(what, 0, ROW_PARTS - 1)) return NO_ROW;
        return rows[k][what];
    }

    public int alterRow(int k, int what, int v) {
        if (!within(k, 0, rowCount - 1) || !within(what, 0, ROW_PARTS - 1)) return NO_ROW;
        return replace(rows[k], what, v);
    }

    public int judge() {
        scratch.take(street.now);
        for (int i = 0; i < rowCount; i++) {
            int[] claim = rows[i];
            if (street.isOver(scratch) || !street.isAct(claim[ROW_ACT])) return i + 1;
            int worth = street.passYear(scratch, claim[ROW_ACT]);
            if (worth != claim[ROW_WORTH] || scratch.fallen != claim[ROW_FALLEN]) return i + 1;
        }
        return 0;
    }

    // ---- the host

    public int sheet(int sheet, int sort, int n) {
        if (!within(sheet, 0, SHEETS - 1) || !within(sort, MISSING, BOOLEANS)) return BAD;
        if (sort != MISSING) {
            if (n > MOST_ITEMS) return BAD;
            if (n < 0) return BELOW_ZERO;
        }
        sheetSort[sheet] = sort;
        sheetSize[sheet] = sort == MISSING ? 0 : n;
        Arrays.fill(sheetItems[sheet], 0);
        return 1;
    }

    public int write(int sheet, int i, int v) {
        if (!within(sheet, 0, SHEETS - 1)) return BAD;
        if (sheetSort[sheet] == MISSING) return NOTHING;
        if (!within(i, 0, sheetSize[sheet] - 1)) return OUTSIDE;
        sheetItems[sheet][i] = narrowed(v, sheetSort[sheet]);
        return 1;
    }

    public int item(int sheet, int sort, int i) {
        if (!within(sheet, 0, SHEETS - 1) || !within(sort, BYTES, BOOLEANS)) return BAD;
        if (sheetSort[sheet] == MISSING) return NOTHING;
        if (sheetSort[sheet] != sort) return OTHER_SORT;
        if (!within(i, 0, sheetSize[sheet] - 1)) return OUTSIDE;
        return sheetItems[sheet][i];
    }

    public int goAll(int sheet, int i, int n) {
        int refusal = refusalOfActs(sheet, n);
        if (refusal < 0) return refusal;
        int worth = 0;
        for (int j = 0; j < n; j++) {
            if (!within(i, 0, sheetSize[sheet] - 1 - j)) return OUTSIDE;
            int act = sheetItems[sheet][i + j];
            if (street.isAct(act) && !street.isOver(street.now)) worth += goOn(act);
        }
        return worth;
    }

    public int wouldBe(int sheet, int i, int n) {
        int refusal = refusalOfActs(sheet, n);
        if (refusal < 0) return refusal;
        scratch.take(street.now);
        int worth = 0;
        for (int j = 0; j < n; j++) {
            if (!within(i, 0, sheetSize[sheet] - 1 - j)) return OUTSIDE;
            int act = sheetItems[sheet][i + j];
            if (!street.isAct(act) || street.isOver(scratch)) return STATE;
            worth += street.passYear(scratch, act);
        }
        return worth;
    }

    public int shelf(int shelf, int what, int n) {
        if (!within(shelf, 0, SHELVES - 1)) return BAD;
        switch (what) {
            case 0:
                if (!street.isPiece(n)) return BAD;
                return put(shelf, A_PIECE, n);
            case 1:
                if (!within(n, 0, SHEETS - 1)) return BAD;
                if (sheetSort[n] == MISSING) return put(shelf, EMPTY, 0);
                return put(shelf, FIRST_ROW + sheetSort[n], sheetSize[n]);
            case 2:
                return put(shelf, EMPTY, 0);
            default:
                return BAD;
        }
    }

    public int taken(int shelf, int as) {
        if (!within(shelf, 0, SHELVES - 1)) return BAD;
        if (!within(as, 0, MOST_KIND) && !within(as, FIRST_ROW, FIRST_ROW + BOOLEANS)) return BAD;
        int holds = heldOn(shelf);
        if (holds == EMPTY) return NOTHING;
        if (holds == A_PIECE) {
            int number = shelfNumber[shelf];
            return as <= MOST_KIND && isOrIsUnder(street.kind[number], as) ? number : OTHER_SORT;
        }
        return holds == as ? shelfNumber[shelf] : OTHER_SORT;
    }

    public int act(int shelf, int act, int x) {
        latest = null;
        if (!within(shelf, 0, SHELVES - 1) || !within(act, 0, 3)) return 0;
        if (heldOn(shelf) != A_PIECE) return 0;
        int number = shelfNumber[shelf];
        latest = kinds[street.kind[number]];
        latest.becomes(number, street.room[number]);
        int answer;
        switch (act) {
            case 0: answer = latest.tips(x); break;
            case 1: answer = latest.taps(x); break;
            case 2: answer = latest.halves(x); break;
            default: answer = latest.turns(x); break;
        }
        return latest.parted ? PARTED_BY_ZERO : answer;
    }

    public int trace(int i) {
        if (latest == null || !within(i, 0, latest.ranCount - 1)) return NONE;
        return latest.ran[i];
    }

    public int many(int what) {
        switch (what) {
            case 0: return street.count;
            case 1: return street.book.count;
            case 2: return Integer.bitCount(street.now.fallen);
            case 3: return street.reports.count;
            case 4: return rowCount;
            case 5: return tapeSize;
            case 6: return latest == null ? 0 : latest.ranCount;
            default: return BAD;
        }
    }

    // ---- kept

    public int keep() {
        keptStreet.take(street);
        kept = true;
        return 1;
    }

    public int again() {
        if (!kept) return NONE;
        street.take(keptStreet);
        return street.count;
    }

    // ---- what the calls share

    private static boolean within(int v, int low, int high) {
        return v >= low && v <= high;
    }

    private static int replace(int[] places, int i, int v) {
        int was = places[i];
        places[i] = v;
        return was;
    }

    private static boolean isOrIsUnder(int kind, int above) {
        return (LINEAGE[kind] >> above & 1) != 0;
    }

    /** NONE of an empty set. */
    private static int leastOf(int set) {
        for (int i = 0; i < MOST_PIECES; i++) {
            if ((set >> i & 1) != 0) return i;
        }
        return NONE;
    }

    private static int nextLot(int z) {
        return z * 1103515245 + 12345;
    }

    private static int narrowed(int v, int sort) {
        switch (sort) {
            case BYTES: return (byte) v;
            case SHORTS: return (short) v;
            case BOOLEANS: return v != 0 ? 1 : 0;
            default: return v;
        }
    }

    private int goOn(int act) {
        int worth = street.passYear(street.now, act);
        street.score += worth;
        return worth;
    }

    private int restWorth(int n) {
        scratch.take(street.now);
        int worth = 0;
        for (int i = 0; i < n && !street.isOver(scratch); i++) {
            worth += street.passYear(scratch, street.leastWilling(scratch));
        }
        return worth;
    }

    private int firstFallen(int k, boolean asInTheRest) {
        if (street.now.isFallen(k)) return NONE;
        scratch.take(street.now);
        for (int i = 0; i < MOST_END && !street.isOver(scratch); i++) {
            street.passYear(scratch, asInTheRest ? street.leastWilling(scratch) : 0);
            if (scratch.isFallen(k)) return scratch.year - 1;
        }
        return NONE;
    }

    /** The least value of the GAP or the ROOM of a piece that makes the rest worth most. */
    private int bestFor(int k, int what, int most) {
        int was = change(k, what, 0);
        int best = 0;
        int bestWorth = restWorth(MOST_END);
        for (int v = 1; v <= most; v++) {
            change(k, what, v);
            int worth = restWorth(MOST_END);
            if (worth > bestWorth) {
                bestWorth = worth;
                best = v;
            }
        }
        change(k, what, was);
        return best;
    }

    private int countChains() {
        int chains = 0;
        for (int k = 0; k < street.count; k++) {
            int chain = street.chainOf(k);
            // each chain is counted at its least piece
            if (leastOf(chain) == k) chains++;
        }
        return chains;
    }

    private int planLength(int n) {
        return Math.max(0, Math.min(n, street.end - street.now.year));
    }

    /** 0 if the sheet is one of acts. */
    private int refusalOfActs(int sheet, int n) {
        if (!within(sheet, 0, SHEETS - 1) || !within(n, 0, MOST_ACTS_OF_SHEET)) return BAD;
        if (sheetSort[sheet] == MISSING) return NOTHING;
        return sheetSort[sheet] == BYTES ? 0 : OTHER_SORT;
    }

    private int put(int shelf, int holds, int number) {
        shelfHolds[shelf] = holds;
        shelfNumber[shelf] = number;
        return 1;
    }

    /** What a shelf holds by now: its piece may be gone since. */
    private int heldOn(int shelf) {
        if (shelfHolds[shelf] == A_PIECE && !street.isPiece(shelfNumber[shelf])) return EMPTY;
        return shelfHolds[shelf];
    }

    /** One of each KIND serves all pieces of it; for an act it becomes one of them. */
    private static class Piece {
        final int[] ran = new int[MOST_TRACED];
        int ranCount = 0;
        boolean parted = false;
        int number = 0;
        int room = 0;

        int leansMore(int word, int hush, int year) {
            return 2 + word;
        }

        int bears(int gap, int number) {
            return 40 - 2 * gap;
        }

        final void becomes(int itsNumber, int itsRoom) {
            number = itsNumber;
            room = itsRoom;
            ranCount = 0;
            parted = false;
        }

        /** Once it has been parted by 0 nothing runs any more, so nothing is traced. */
        final void began(int body) {
            if (parted || ranCount >= MOST_TRACED) return;
            ran[ranCount] = body;
            ranCount++;
        }

        int tips(int x) {
            began(10);
            return x * 10 - number;
        }

        int taps(int x) {
            began(11);
            return tips(x) + 3 * room;
        }

        int halves(int x) {
            began(12);
            int parts = room - number + 4;
            if (parts == 0) {
                parted = true;
                return 0;
            }
            return x / parts;
        }

        int turns(int x) {
            began(13);
            return taps(x) ^ halves(x);
        }
    }

    private static final class Aunt extends Piece {
        int leansMore(int word, int hush, int year) {
            return 1;
        }

        int bears(int gap, int number) {
            return 95;
        }

        int tips(int x) {
            began(20);
            return super.tips(x) ^ 30;
        }
    }

    private static class Father extends Piece {
        int leansMore(int word, int hush, int year) {
            return 2 * super.leansMore(word, hush, year);
        }

        int bears(int gap, int number) {
            return super.bears(gap, number) - 8;
        }

        int taps(int x) {
            began(30);
            return super.taps(x) * 2;
        }
    }

    private static final class Eldest extends Father {
        int leansMore(int word, int hush, int year) {
            return super.leansMore(word, hush, year) + year / 6;
        }

        int bears(int gap, int number) {
            return super.bears(gap, number) + gap;
        }

        int tips(int x) {
            began(50);
            return super.tips(x - 14);
        }

        int turns(int x) {
            began(51);
            return super.turns(x) - taps(room);
        }
    }

    private static class Girl extends Piece {
        int leansMore(int word, int hush, int year) {
            return Math.max(0, super.leansMore(word, hush, year) - hush);
        }

        int bears(int gap, int number) {
            return super.bears(gap, number) + 10;
        }

        int halves(int x) {
            began(40);
            return super.halves(x) + 5;
        }
    }

    private static final class Sailor extends Girl {
        int leansMore(int word, int hush, int year) {
            return (year & 1) != 0 ? 0 : super.leansMore(word, hush, year);
        }

        int bears(int gap, int number) {
            return super.bears(gap, number) + number;
        }

        int taps(int x) {
            began(60);
            return 0 - super.taps(x);
        }

        int halves(int x) {
            began(61);
            return super.halves(x) + tips(number);
        }
    }

    /** All that a year alters: what is asked runs on copies of it. */
    private static final class Moment {
        int year = 0;
        int fallen = 0;
        final int[] lean = new int[MOST_PIECES];

        void take(Moment other) {
            year = other.year;
            fallen = other.fallen;
            System.arraycopy(other.lean, 0, lean, 0, MOST_PIECES);
        }

        boolean isFallen(int k) {
            return (fallen >> k & 1) != 0;
        }

        int setFallen(int k, int v) {
            int was = fallen >> k & 1;
            fallen = fallen & ~(1 << k) | v << k;
            return was;
        }

        void leanMore(int k, int more) {
            lean[k] = Math.min(MOST_LEAN, lean[k] + more);
        }
    }

    /** All that is kept: pieces, sayings, rooms, rules, reports, the lot, and how it is now. */
    private static final class Street {
        final Piece[] kinds;
        int count = 0;
        final int[] kind = new int[MOST_PIECES];
        final int[] gap = new int[MOST_PIECES];
        final int[] room = new int[MOST_PIECES];
        /** What each bears: it changes with KIND and GAP alone, and years ask for it all the time. */
        final int[] bears = new int[MOST_PIECES];
        final int[] sayings = new int[SAYINGS];
        final int[] stairs = new int[ROOMS];
        final int[] hands = new int[ROOMS];
        final Moment now = new Moment();
        int end = 12;
        int score = 0;
        int z = 1;
        RuleBook book = new RuleBook();
        final Reports reports = new Reports();

        Street(Piece[] kinds) {
            this.kinds = kinds;
            Arrays.fill(sayings, 6);
        }

        void take(Street other) {
            count = other.count;
            System.arraycopy(other.kind, 0, kind, 0, MOST_PIECES);
            System.arraycopy(other.gap, 0, gap, 0, MOST_PIECES);
            System.arraycopy(other.room, 0, room, 0, MOST_PIECES);
            System.arraycopy(other.bears, 0, bears, 0, MOST_PIECES);
            System.arraycopy(other.sayings, 0, sayings, 0, SAYINGS);
            System.arraycopy(other.stairs, 0, stairs, 0, ROOMS);
            System.arraycopy(other.hands, 0, hands, 0, ROOMS);
            now.take(other.now);
            end = other.end;
            score = other.score;
            z = other.z;
            book.take(other.book);
            reports.take(other.reports);
        }

        int add(int itsKind, int lean, int itsGap, int itsRoom) {
            int k = count;
            kind[k] = itsKind;
            gap[k] = itsGap;
            room[k] = itsRoom;
            now.lean[k] = lean;
            now.setFallen(k, 0);
            settleBears(k);
            count++;
            return k;
        }

        int setGap(int k, int v) {
            int was = gap[k];
            gap[k] = v;
            settleBears(k);
            return was;
        }

        int setKind(int k, int v) {
            int was = kind[k];
            kind[k] = v;
            settleBears(k);
            return was;
        }

        private void settleBears(int k) {
            bears[k] = kinds[kind[k]].bears(gap[k], k);
        }

        boolean isPiece(int k) {
            return k >= 0 && k < count;
        }

        boolean isAct(int act) {
            return act >= 0 && act <= count;
        }

        boolean isSet(int pieces) {
            return pieces >= 0 && pieces < 1 << count;
        }

        boolean isOver(Moment m) {
            return m.year >= end;
        }

        int sayingOf(int year) {
            return year >= 0 && year < SAYINGS ? sayings[year] : 0;
        }

        int wordOf(int year) {
            return sayingOf(year) >> 2;
        }

        int hushOf(int year) {
            return sayingOf(year) & 3;
        }

        int leanOfAll(Moment m) {
            int sum = 0;
            for (int k = 0; k < count; k++) sum += m.lean[k];
            return sum;
        }

        int leansMore(Moment m, int k) {
            return kinds[kind[k]].leansMore(wordOf(m.year), hushOf(m.year), m.year);
        }

        int pays(Moment m, int k) {
            if (m.isFallen(k)) return 0;
            return m.lean[k] + 6 * wordOf(m.year) >= bears[k] ? 4 + gap[k] : 0;
        }

        int will(Moment m, int k) {
            if (book.count == 0) return SAY;
            book.learn(m.year, m.lean[k], gap[k], wordOf(m.year), k);
            for (int i = 0; i < book.count; i++) {
                if (isOrIsUnder(kind[k], book.kinds[i]) && book.holds(i)) return book.doings[i];
            }
            return SAY;
        }

        boolean mayFall(Moment m, int k) {
            return pays(m, k) > 0 && will(m, k) == SAY;
        }

        /** The act of THE REST. */
        int leastWilling(Moment m) {
            for (int k = 0; k < count; k++) {
                if (mayFall(m, k)) return k + 1;
            }
            return 0;
        }

        int actByLot(int lot) {
            return (lot >>> 16) % (count + 1);
        }

        /** To tell it is as to tell nobody. */
        boolean isIdle(Moment m, int k) {
            if (m.isFallen(k)) return true;
            int will = will(m, k);
            return will == STAND || will == SAY && pays(m, k) == 0;
        }

        void fall(Moment m, int k) {
            m.setFallen(k, 1);
            int next = room[k] + 1;
            if (next >= ROOMS) return;
            for (int j = 0; j < count; j++) {
                if (room[j] == next && !m.isFallen(j)) m.leanMore(j, 12 + stairs[next]);
            }
        }

        int passYear(Moment m, int act) {
            int worth = isPiece(act - 1) ? tell(m, act - 1) : 0;
            worth += toppleBent(m);
            int word = wordOf(m.year);
            int hush = hushOf(m.year);
            for (int k = 0; k < count; k++) {
                if (!m.isFallen(k)) m.leanMore(k, kinds[kind[k]].leansMore(word, hush, m.year));
            }
            m.year++;
            return worth;
        }

        private int tell(Moment m, int k) {
            if (m.isFallen(k)) return 0;
            int will = will(m, k);
            if (will == SAY) {
                int worth = pays(m, k);
                if (worth > 0) fall(m, k);
                return worth;
            }
            if (will == HOLD) {
                m.lean[k] = Math.max(0, m.lean[k] - 10 - hands[room[k]]);
                return hushOf(m.year) > 1 ? 1 : 0;
            }
            return 0;
        }

        /** Who falls is settled before the first of them leans on another. */
        private int toppleBent(Moment m) {
            int bent = 0;
            for (int k = 0; k < count; k++) {
                if (!m.isFallen(k) && m.lean[k] >= bears[k] + 12) bent |= 1 << k;
            }
            for (int k = 0; k < count && bent != 0; k++) {
                if ((bent >> k & 1) != 0) fall(m, k);
            }
            return Integer.bitCount(bent);
        }

        int chainOf(int k) {
            if (now.isFallen(k)) return 0;
            int chain = 1 << k;
            // each round adds a piece at least, or all are there
            for (int round = 1; round < count; round++) {
                for (int j = 0; j < count; j++) {
                    if (!now.isFallen(j) && isCloseToOne(j, chain)) chain |= 1 << j;
                }
            }
            return chain;
        }

        private boolean isCloseToOne(int j, int chain) {
            for (int i = 0; i < count; i++) {
                if ((chain >> i & 1) != 0 && Math.abs(room[i] - room[j]) <= 1) return true;
            }
            return false;
        }
    }

    /** THE RULES, with the reader of their text. */
    private static final class RuleBook {
        /** A word's token is how many stand ahead of it; kinds and doings stand by their numbers. */
        static final String WORDS =
            "piece aunt father eldest girl sailor if say stand hold or and not year lean gap word number ";
        static final int LAST_KIND = 5, IF = 6, FIRST_DO = 7, OR = 10, AND = 11, NOT = 12, FIRST_FACT = 13;
        static final int LESS = 20, EQUAL = 21, MORE = 22, OPEN = 23, CLOSE = 24, SEMICOLON = 25;
        static final int WRONG = 26, END = 27, FIRST_NUMBER = 100;
        static final int MOST_RULES = 8, MOST_OPEN = 3, MOST_DIGITS = 4, MOST_NUMBER = 9999, FACTS = 5;
        static final int NOT_CODE = -1, AND_CODE = -2, OR_CODE = -3;
        static final int VALUE_BITS = 14, VALUE_MASK = 16383, FIRST_FACT_VALUE = 10000;

        int count = 0;
        final int[] kinds = new int[MOST_RULES];
        final int[] doings = new int[MOST_RULES];
        /** The condition of rule i is code starts[i] to starts[i + 1], operators behind what they join. */
        final int[] starts = new int[MOST_RULES + 1];
        final int[] code = new int[MOST_BYTES];
        int codeSize = 0;
        final int[] facts = new int[FACTS];

        final int[] tokens = new int[MOST_BYTES + 1];
        final int[] places = new int[MOST_BYTES + 1];
        int at = 0;

        void take(RuleBook other) {
            count = other.count;
            codeSize = other.codeSize;
            System.arraycopy(other.kinds, 0, kinds, 0, MOST_RULES);
            System.arraycopy(other.doings, 0, doings, 0, MOST_RULES);
            System.arraycopy(other.starts, 0, starts, 0, MOST_RULES + 1);
            System.arraycopy(other.code, 0, code, 0, codeSize);
        }

        void learn(int year, int lean, int gap, int word, int number) {
            facts[0] = year;
            facts[1] = lean;
            facts[2] = gap;
            facts[3] = word;
            facts[4] = number;
        }

        /** The stack is the bits of an int: the brackets' limit keeps it below ten; a rule without condition holds. */
        boolean holds(int rule) {
            int stack = 1;
            for (int i = starts[rule]; i < starts[rule + 1]; i++) {
                int c = code[i];
                switch (c) {
                    case NOT_CODE: stack ^= 1; break;
                    case AND_CODE: stack = (stack >> 1) & (stack | ~1); break;
                    case OR_CODE: stack = (stack >> 1) | (stack & 1); break;
                    default: stack = stack << 1 | (compares(c) ? 1 : 0); break;
                }
            }
            return (stack & 1) != 0;
        }

        private boolean compares(int c) {
            int left = c >> VALUE_BITS & VALUE_MASK;
            int right = c & VALUE_MASK;
            int leftFact = left - FIRST_FACT_VALUE;
            int rightFact = right - FIRST_FACT_VALUE;
            if (leftFact >= 0 && leftFact < FACTS) left = facts[leftFact];
            if (rightFact >= 0 && rightFact < FACTS) right = facts[rightFact];
            switch (c >> 2 * VALUE_BITS) {
                case 0: return left < right;
                case 1: return left == right;
                default: return left > right;
            }
        }

        /** How many rules there are; or FAULTS less the fault, and then the book is of no use. */
        int readText(byte[] text, int size) {
            split(text, size);
            at = 0;
            count = 0;
            codeSize = 0;
            for (int i = 0; i < MOST_RULES && tokens[at] != END; i++) {
                if (!readRule()) return FAULTS - places[at];
            }
            // what stands behind the eighth rule begins a ninth
            return tokens[at] == END ? count : FAULTS - places[at];
        }

        private void split(byte[] text, int size) {
            int found = 0;
            int from = 0;
            // each round passes a byte at least, so there are no more rounds than bytes
            for (int i = 0; i < MOST_BYTES && from < size; i++) {
                int end = endOf(text, from, size);
                if (text[from] != ' ') {
                    tokens[found] = tokenOf(text, from, end);
                    places[found] = from;
                    found++;
                }
                from = end;
            }
            tokens[found] = END;
            places[found] = size;
        }

        private static int endOf(byte[] text, int from, int size) {
            int end = from + 1;
            if (isLetter(text[from])) {
                while (end < size && isLetter(text[end])) end++;
            } else if (isDigit(text[from])) {
                while (end < size && isDigit(text[end])) end++;
            }
            return end;
        }

        private static int tokenOf(byte[] text, int from, int end) {
            if (isLetter(text[from])) return wordOf(text, from, end);
            if (isDigit(text[from])) return numberOf(text, from, end);
            switch (text[from]) {
                case '<': return LESS;
                case '=': return EQUAL;
                case '>': return MORE;
                case '(': return OPEN;
                case ')': return CLOSE;
                case ';': return SEMICOLON;
                default: return WRONG;
            }
        }

        private static int wordOf(byte[] text, int from, int end) {
            int word = 0;
            int begin = 0;
            for (int i = 0; i < WORDS.length(); i++) {
                if (WORDS.charAt(i) != ' ') continue;
                if (i - begin == end - from && spells(text, from, begin, i)) return word;
                begin = i + 1;
                word++;
            }
            return WRONG;
        }

        private static boolean spells(byte[] text, int from, int begin, int end) {
            for (int i = begin; i < end; i++) {
                if (text[from + i - begin] != WORDS.charAt(i)) return false;
            }
            return true;
        }

        private static int numberOf(byte[] text, int from, int end) {
            if (end - from > MOST_DIGITS) return WRONG;
            int number = 0;
            for (int i = from; i < end; i++) number = number * 10 + text[i] - '0';
            return FIRST_NUMBER + number;
        }

        private static boolean isLetter(byte b) {
            return b >= 'a' && b <= 'z';
        }

        private static boolean isDigit(byte b) {
            return b >= '0' && b <= '9';
        }

        /** Where a reading method says false, the token it stopped at is the faulty one. */
        private boolean readRule() {
            int kind = tokens[at];
            if (kind > LAST_KIND) return false;
            at++;
            starts[count] = codeSize;
            if (tokens[at] == IF) {
                at++;
                if (!readCondition(0)) return false;
            }
            int doing = tokens[at] - FIRST_DO;
            if (doing < SAY || doing > HOLD) return false;
            at++;
            if (!passes(SEMICOLON)) return false;
            kinds[count] = kind;
            doings[count] = doing;
            count++;
            starts[count] = codeSize;
            return true;
        }

        private boolean passes(int token) {
            if (tokens[at] != token) return false;
            at++;
            return true;
        }

        private boolean readCondition(int open) {
            if (!readAllOf(open)) return false;
            for (int i = 0; i < MOST_BYTES && tokens[at] == OR; i++) {
                at++;
                if (!readAllOf(open)) return false;
                emit(OR_CODE);
            }
            return true;
        }

        private boolean readAllOf(int open) {
            if (!readOne(open)) return false;
            for (int i = 0; i < MOST_BYTES && tokens[at] == AND; i++) {
                at++;
                if (!readOne(open)) return false;
                emit(AND_CODE);
            }
            return true;
        }

        private boolean readOne(int open) {
            boolean negated = false;
            for (int i = 0; i < MOST_BYTES && tokens[at] == NOT; i++) {
                at++;
                negated = !negated;
            }
            if (tokens[at] == OPEN) {
                if (open >= MOST_OPEN) return false;
                at++;
                if (!readCondition(open + 1) || !passes(CLOSE)) return false;
            } else if (!readComparison()) {
                return false;
            }
            if (negated) emit(NOT_CODE);
            return true;
        }

        private boolean readComparison() {
            int left = valueCode(tokens[at]);
            if (left < 0) return false;
            at++;
            int sign = tokens[at] - LESS;
            if (sign < 0 || sign > MORE - LESS) return false;
            at++;
            int right = valueCode(tokens[at]);
            if (right < 0) return false;
            at++;
            emit((sign << VALUE_BITS | left) << VALUE_BITS | right);
            return true;
        }

        /** -1 if the token is no value. */
        private static int valueCode(int token) {
            if (token >= FIRST_NUMBER && token <= FIRST_NUMBER + MOST_NUMBER) return token - FIRST_NUMBER;
            int fact = token - FIRST_FACT;
            return fact >= 0 && fact < FACTS ? FIRST_FACT_VALUE + fact : -1;
        }

        /** There is never more code than tokens, but the bound is looked at all the same. */
        private void emit(int c) {
            if (codeSize >= MOST_BYTES) return;
            code[codeSize] = c;
            codeSize++;
        }
    }

    /** Searches through all plans; level i of each row is for the i-th year of a plan. */
    private static final class Planner {
        static final int NEVER = 99;

        final Street street;
        final Moment[] levels = new Moment[MOST_PLAN + 1];
        /** From level i on: the first of the best plans, at places i and behind; how many best ones there are. */
        final int[][] firstActs = new int[MOST_PLAN + 1][MOST_PLAN];
        final int[] waysFrom = new int[MOST_PLAN + 1];

        Planner(Street street) {
            this.street = street;
            for (int i = 0; i <= MOST_PLAN; i++) levels[i] = new Moment();
        }

        void start() {
            levels[0].take(street.now);
        }

        private boolean isLast(int level, int n) {
            return level >= n || level >= MOST_PLAN || street.isOver(levels[level]);
        }

        private int goDeeper(int level, int act) {
            Moment next = levels[level + 1];
            next.take(levels[level]);
            return street.passYear(next, act);
        }

        int bestFrom(int level, int n) {
            if (isLast(level, n)) {
                waysFrom[level] = 1;
                return 0;
            }
            int worthOfNone = goDeeper(level, 0) + bestFrom(level + 1, n);
            int waysOfNone = waysFrom[level + 1];
            int best = worthOfNone;
            int ways = waysOfNone;
            noteFirst(level, 0);
            int idle = 0;
            for (int act = 1; act <= street.count; act++) {
                if (street.isIdle(levels[level], act - 1)) {
                    idle++;
                    continue;
                }
                int worth = goDeeper(level, act) + bestFrom(level + 1, n);
                if (worth > best) {
                    best = worth;
                    ways = waysFrom[level + 1];
                    noteFirst(level, act);
                } else if (worth == best) {
                    ways += waysFrom[level + 1];
                }
            }
            // what is idle goes on as act 0 does, and is never first
            if (worthOfNone == best) ways += idle * waysOfNone;
            waysFrom[level] = ways;
            return best;
        }

        private void noteFirst(int level, int act) {
            firstActs[level][level] = act;
            for (int i = level + 1; i < MOST_PLAN; i++) firstActs[level][i] = firstActs[level + 1][i];
        }

        /** NEVER if no plan does it. What has fallen stays so, and idle acts count without help. */
        int fewestFrom(int level, int n, int wanted) {
            if ((levels[level].fallen & wanted) == wanted) return 0;
            if (isLast(level, n)) return NEVER;
            goDeeper(level, 0);
            int fewest = fewestFrom(level + 1, n, wanted);
            for (int act = 1; act <= street.count && fewest > 0; act++) {
                if (street.isIdle(levels[level], act - 1)) continue;
                goDeeper(level, act);
                fewest = Math.min(fewest, 1 + fewestFrom(level + 1, n, wanted));
            }
            return Math.min(fewest, NEVER);
        }

        /** All that have fallen behind some plan. */
        int reachFrom(int level, int n) {
            int reached = levels[level].fallen;
            if (isLast(level, n)) return reached;
            goDeeper(level, 0);
            reached |= reachFrom(level + 1, n);
            for (int act = 1; act <= street.count; act++) {
                if (street.isIdle(levels[level], act - 1)) continue;
                goDeeper(level, act);
                reached |= reachFrom(level + 1, n);
            }
            return reached;
        }

        /** Idle acts come to what act 0 comes to, which is less than they. */
        int gameFrom(int level, int n) {
            if (isLast(level, n)) return 0;
            boolean wantsMost = (level & 1) == 0;
            int value = goDeeper(level, 0) + gameFrom(level + 1, n);
            int choice = 0;
            for (int act = 1; act <= street.count; act++) {
                if (street.isIdle(levels[level], act - 1)) continue;
                int other = goDeeper(level, act) + gameFrom(level + 1, n);
                if (wantsMost ? other > value : other < value) {
                    value = other;
                    choice = act;
                }
            }
            firstActs[level][level] = choice;
            return value;
        }
    }

    /** REPORTS of a lone piece, and the search for the pieces that fit them. */
    private static final class Reports {
        int count = 0;
        final int[] years = new int[MOST_REPORTS];
        final int[] asked = new int[MOST_REPORTS];
        final int[] low = new int[MOST_REPORTS];
        final int[] high = new int[MOST_REPORTS];

        int fitting = 0;
        int firstKind = 0;
        int firstGap = 0;
        int firstLean = 0;
        /** Reports that alone keep some piece from fitting, as a set. */
        int suspects = 0;

        void take(Reports other) {
            count = other.count;
            System.arraycopy(other.years, 0, years, 0, MOST_REPORTS);
            System.arraycopy(other.asked, 0, asked, 0, MOST_REPORTS);
            System.arraycopy(other.low, 0, low, 0, MOST_REPORTS);
            System.arraycopy(other.high, 0, high, 0, MOST_REPORTS);
        }

        int add(int itsYears, int itIsAsked, int least, int most) {
            int i = count;
            years[i] = itsYears;
            asked[i] = itIsAsked;
            low[i] = least;
            high[i] = most;
            count++;
            return i;
        }

        void search(Street street) {
            fitting = 0;
            suspects = 0;
            for (int kind = 1; kind <= MOST_KIND; kind++) {
                for (int gap = 0; gap <= MOST_GAP; gap++) {
                    for (int lean = 0; lean <= MOST_FIRST_LEAN; lean += LEAN_STEP) noteLone(street, kind, gap, lean);
                }
            }
        }

        private void noteLone(Street street, int kind, int gap, int lean) {
            int broken = brokenBy(street, street.kinds[kind], gap, lean);
            if (Integer.bitCount(broken) == 1) suspects |= broken;
            if (broken != 0) return;
            if (fitting == 0) {
                firstKind = kind;
                firstGap = gap;
                firstLean = lean;
            }
            fitting++;
        }

        /** The reports that such a piece makes wrong, as a set. */
        private int brokenBy(Street street, Piece kind, int gap, int firstLeanOfIt) {
            int bears = kind.bears(gap, 0);
            int lean = firstLeanOfIt;
            int paid = 0;
            int broken = 0;
            int last = lastYear();
            for (int year = 0; year <= last; year++) {
                broken |= brokenBehind(year, lean, paid);
                int word = street.wordOf(year);
                if (lean + 6 * word >= bears) paid++;
                lean = Math.min(MOST_LEAN, lean + kind.leansMore(word, street.hushOf(year), year));
            }
            return broken;
        }

        private int brokenBehind(int year, int lean, int paid) {
            int broken = 0;
            for (int i = 0; i < count; i++) {
                if (years[i] != year) continue;
                int value = asked[i] == 0 ? lean : paid;
                if (value < low[i] || value > high[i]) broken |= 1 << i;
            }
            return broken;
        }

        private int lastYear() {
            int last = -1;
            for (int i = 0; i < count; i++) last = Math.max(last, years[i]);
            return last;
        }
    }
}
