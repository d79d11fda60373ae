import java.util.Arrays;

/**
 * Sheets cut by full cuts in stages: the best tree of each by tables, parts that are still wanted,
 * sheets chosen by what they give for their price, rests, sheets that are cut alike, lengths of
 * cuts, a bound.
 */
public final class SheetTrees {
    public static final int NONE = -1;

    private static final int LONGEST = 16;
    private static final int MOST_KERF = 3;
    private static final int MOST_STAGES = 3;
    private static final int MOST_SHEETS = 4;
    private static final int MOST_CENTS = 10000;
    private static final int MOST_STOCK = 20;
    private static final int MOST_PARTS = 8;
    private static final int MOST_COUNT = 50;
    private static final int MOST_CUT_SHEETS = 20;
    // Every piece has an area of 1 at least, so no sheet falls into more of them.
    private static final int MOST_PIECES = LONGEST * LONGEST;

    // What a tree does with a piece: below WASTE the number of a part, above it WASTE + c for a cut at c.
    private static final int WASTE = MOST_PARTS;

    private final int stages;
    private final int least;
    private final Sheet[] sheets = new Sheet[MOST_SHEETS];
    private final Part[] parts = new Part[MOST_PARTS];
    private final CutSheet[] cutSheets = new CutSheet[MOST_CUT_SHEETS];
    private final int[] takenPieces = new int[MOST_PARTS * MOST_COUNT];
    private final int[] restPieces = new int[MOST_CUT_SHEETS * MOST_PIECES];
    private final Tables tables;
    private final Layout layout;
    private int sheetCount = 0;
    private int partCount = 0;
    private int cutCount = 0;
    private int takenCount = 0;
    private int restCount = 0;
    private boolean ran = false;

    public SheetTrees(int kerf, int stages, int least) {
        this.stages = nearest(stages, 1, MOST_STAGES);
        this.least = nearest(least, 1, LONGEST);
        this.tables = new Tables(nearest(kerf, 0, MOST_KERF));
        this.layout = new Layout(tables);
        for (int i = 0; i < sheets.length; i++) {
            sheets[i] = new Sheet();
        }
        for (int i = 0; i < parts.length; i++) {
            parts[i] = new Part();
        }
        for (int i = 0; i < cutSheets.length; i++) {
            cutSheets[i] = new CutSheet();
        }
    }

    public int sheet(int width, int height, int cents, int stock)
            throws IllegalArgumentException, IllegalStateException {
        if (!isSide(width) || !isSide(height)) {
            throw new IllegalArgumentException("a side is not 1 .. 16");
        }
        if (!isWithin(cents, 1, MOST_CENTS)) {
            throw new IllegalArgumentException("cents are not 1 .. 10000");
        }
        if (!isWithin(stock, 0, MOST_STOCK)) {
            throw new IllegalArgumentException("stock is not 0 .. 20");
        }
        if (sheetCount >= sheets.length) {
            throw new IllegalStateException("there are 4 sheets");
        }
        Sheet told = sheets[sheetCount];
        told.width = width;
        told.height = height;
        told.cents = cents;
        told.stock = stock;
        ran = false;
        return sheetCount++;
    }

    public int part(int width, int height, int count, boolean turns)
            throws IllegalArgumentException, IllegalStateException {
        if (!isSide(width) || !isSide(height)) {
            throw new IllegalArgumentException("a side is not 1 .. 16");
        }
        if (!isWithin(count, 0, MOST_COUNT)) {
            throw new IllegalArgumentException("count is not 0 .. 50");
        }
        if (partCount >= parts.length) {
            throw new IllegalStateException("there are 8 parts");
        }
        Part told = parts[partCount];
        told.width = width;
        told.height = height;
        told.turns = turns;
        told.count = count;
        ran = false;
        return partCount++;
    }

    public int count(int part, int count) throws IndexOutOfBoundsException, IllegalArgumentException {
        Part told = partAt(part);
        if (!isWithin(count, 0, MOST_COUNT)) {
            throw new IllegalArgumentException("count is not 0 .. 50");
        }
        int before = told.count;
        told.count = count;
        ran = false;
        return before;
    }

    public int worth(int width, int height, int way, int stages) throws IllegalArgumentException {
        if (!isSide(width) || !isSide(height)) {
            throw new IllegalArgumentException("a side is not 1 .. 16");
        }
        if (!isWithin(way, 0, 1)) {
            throw new IllegalArgumentException("way is not 0 or 1");
        }
        if (!isWithin(stages, 0, MOST_STAGES)) {
            throw new IllegalArgumentException("stages are not 0 .. 3");
        }
        tables.fill(parts, partsTold(), stages);
        return tables.valueOf(stages, way, width, height);
    }

    public int run() {
        startRun();
        for (int round = 0; round < MOST_CUT_SHEETS; round++) {
            tables.fill(parts, partsStillWanted(), stages);
            int best = bestSheet();
            if (best == NONE) {
                break;
            }
            cutOneOf(best);
        }
        ran = true;
        return cutCount;
    }

    public int cut(int sheet, int what) throws IllegalStateException, IndexOutOfBoundsException {
        CutSheet asked = cutSheetAt(sheet);
        switch (what) {
            case 0: return asked.sheet;
            case 1: return asked.takenCount;
            case 2: return asked.takenArea;
            case 3: return asked.cuts;
            case 4: return asked.way;
            case 5: return asked.minutes;
            case 6: return asked.restCount;
            case 7: return asked.firstAlike;
            default: throw new IndexOutOfBoundsException("what is not 0 .. 7");
        }
    }

    public int taken(int sheet, int k, int what) throws IllegalStateException, IndexOutOfBoundsException {
        CutSheet asked = cutSheetAt(sheet);
        if (!isWithin(k, 0, asked.takenCount - 1)) {
            throw new IndexOutOfBoundsException("there is no such part taken");
        }
        if (!isWithin(what, 0, 4)) {
            throw new IndexOutOfBoundsException("what is not 0 .. 4");
        }
        return Piece.field(pieceAt(takenPieces, asked.takenFrom + k), what);
    }

    public int rest(int sheet, int k, int what) throws IllegalStateException, IndexOutOfBoundsException {
        CutSheet asked = cutSheetAt(sheet);
        if (!isWithin(k, 0, asked.restCount - 1)) {
            throw new IndexOutOfBoundsException("there is no such rest");
        }
        if (!isWithin(what, 0, 3)) {
            throw new IndexOutOfBoundsException("what is not 0 .. 3");
        }
        return Piece.field(pieceAt(restPieces, asked.restFrom + k), Piece.X + what);
    }

    public int left(int part) throws IllegalStateException, IndexOutOfBoundsException {
        needRun();
        return partAt(part).left;
    }

    public long all(int what) throws IllegalStateException, IndexOutOfBoundsException {
        needRun();
        if (!isWithin(what, 0, 2)) {
            throw new IndexOutOfBoundsException("what is not 0 .. 2");
        }
        long sum = 0;
        for (int i = 0; i < cutCount && i < cutSheets.length; i++) {
            CutSheet one = cutSheets[i];
            sum += what == 0 ? one.cents : what == 1 ? one.area : one.takenArea;
        }
        return sum;
    }

    public int bound() {
        int largest = 0;
        for (int i = 0; i < sheetCount && i < sheets.length; i++) {
            largest = Math.max(largest, sheets[i].area());
        }
        if (largest < 1) {
            return 0;
        }
        int asked = 0;
        for (int p = 0; p < partCount && p < parts.length; p++) {
            asked += parts[p].area() * parts[p].count;
        }
        return (asked + largest - 1) / largest;
    }

    private static int nearest(int value, int low, int high) {
        return Math.max(low, Math.min(high, value));
    }

    private static boolean isWithin(int value, int low, int high) {
        return value >= low && value <= high;
    }

    private static boolean isSide(int length) {
        return isWithin(length, 1, LONGEST);
    }

    private static int pieceAt(int[] pieces, int place) {
        return place >= 0 && place < pieces.length ? pieces[place] : 0;
    }

    private void needRun() {
        if (!ran) {
            throw new IllegalStateException("nothing was run since something was told");
        }
    }

    private Part partAt(int number) {
        if (number < 0 || number >= partCount || number >= parts.length) {
            throw new IndexOutOfBoundsException("there is no such part");
        }
        return parts[number];
    }

    private CutSheet cutSheetAt(int number) {
        needRun();
        if (number < 0 || number >= cutCount || number >= cutSheets.length) {
            throw new IndexOutOfBoundsException("there is no such cut sheet");
        }
        return cutSheets[number];
    }

    /** The parts with a count above 0, a bit each. */
    private int partsTold() {
        int wanted = 0;
        for (int p = 0; p < partCount && p < parts.length; p++) {
            wanted |= parts[p].count > 0 ? 1 << p : 0;
        }
        return wanted;
    }

    /** The parts of which the run has not yet taken all copies, a bit each. */
    private int partsStillWanted() {
        int wanted = 0;
        for (int p = 0; p < partCount && p < parts.length; p++) {
            wanted |= parts[p].left > 0 ? 1 << p : 0;
        }
        return wanted;
    }

    private void startRun() {
        cutCount = 0;
        takenCount = 0;
        restCount = 0;
        for (int i = 0; i < sheetCount && i < sheets.length; i++) {
            sheets[i].unused = sheets[i].stock;
        }
        for (int p = 0; p < partCount && p < parts.length; p++) {
            parts[p].left = parts[p].count;
        }
    }

    /** The sheet that gives most for its cents, or NONE if nothing can be taken from any. */
    private int bestSheet() {
        int best = NONE;
        int bestArea = 0;
        int bestCents = 1;
        for (int i = 0; i < sheetCount && i < sheets.length; i++) {
            Sheet sheet = sheets[i];
            if (sheet.unused > 0) {
                layout.lay(sheet, stages);
                int area = layout.areaToTake(parts);
                if (area * bestCents > bestArea * sheet.cents) {
                    best = i;
                    bestArea = area;
                    bestCents = sheet.cents;
                }
            }
        }
        return best;
    }

    private void cutOneOf(int number) {
        if (number < 0 || number >= sheets.length || cutCount >= cutSheets.length) {
            return;
        }
        Sheet sheet = sheets[number];
        CutSheet made = cutSheets[cutCount];
        layout.lay(sheet, stages);
        sheet.unused--;
        made.start(number, sheet, layout);
        takePieces(made);
        made.firstAlike = firstAlike(made);
        cutCount++;
    }

    private void takePieces(CutSheet made) {
        made.takenFrom = takenCount;
        made.restFrom = restCount;
        for (int i = 0; i < layout.pieceCount && i < layout.pieces.length; i++) {
            int piece = layout.pieces[i];
            int kind = Piece.field(piece, Piece.KIND);
            if (kind == WASTE) {
                keepRest(piece);
            } else if (kind < parts.length) {
                takePart(made, parts[kind], piece);
            }
        }
        made.takenCount = takenCount - made.takenFrom;
        made.restCount = restCount - made.restFrom;
    }

    private void takePart(CutSheet made, Part part, int piece) {
        if (part.left > 0 && takenCount < takenPieces.length) {
            part.left--;
            made.takenArea += part.area();
            takenPieces[takenCount++] = piece;
        }
    }

    private void keepRest(int piece) {
        if (Piece.isAtLeast(piece, least) && restCount < restPieces.length) {
            restPieces[restCount++] = piece;
        }
    }

    /**
     * Trees need not be compared: within a run parts only cease to be wanted. An earlier tree that
     * uses none but parts still wanted is still open, and nothing new rivals it, so it is the best
     * one again; any other holds a part that the later tree cannot hold.
     */
    private int firstAlike(CutSheet made) {
        int stillWanted = tables.wanted;
        for (int i = 0; i < cutCount && i < cutSheets.length; i++) {
            CutSheet earlier = cutSheets[i];
            if (earlier.sheet == made.sheet && (earlier.partsUsed & ~stillWanted) == 0) {
                return i;
            }
        }
        return cutCount;
    }

    private static final class Sheet {
        private int width = 0;
        private int height = 0;
        private int cents = 0;
        private int stock = 0;
        private int unused = 0;

        private int area() {
            return width * height;
        }
    }

    private static final class Part {
        private int width = 0;
        private int height = 0;
        private boolean turns = false;
        private int count = 0;
        private int left = 0;

        private int area() {
            return width * height;
        }
    }

    /** What a run keeps of a cut sheet; its parts and rests stand in rows that all cut sheets share. */
    private static final class CutSheet {
        private int sheet = 0;
        private int cents = 0;
        private int area = 0;
        private int way = 0;
        private int cuts = 0;
        private int minutes = 0;
        private int partsUsed = 0;
        private int takenFrom = 0;
        private int takenCount = 0;
        private int takenArea = 0;
        private int restFrom = 0;
        private int restCount = 0;
        private int firstAlike = 0;

        private void start(int number, Sheet of, Layout layout) {
            sheet = number;
            cents = of.cents;
            area = of.area();
            way = layout.way;
            cuts = layout.cuts;
            minutes = layout.minutes;
            partsUsed = layout.partsUsed();
            takenArea = 0;
        }
    }

    /** A piece that a tree does not cut, in one number, so that a row of pieces is a row of numbers. */
    private static final class Piece {
        // The fields in the order in which taken() and rest() number them.
        private static final int KIND = 0;
        private static final int X = 1;
        private static final int WIDTH = 3;
        private static final int HEIGHT = 4;
        private static final int BITS = 5;
        private static final int MASK = (1 << BITS) - 1;

        private static int of(int kind, int x, int y, int width, int height) {
            return (((kind << BITS | x) << BITS | y) << BITS | width) << BITS | height;
        }

        private static int field(int piece, int field) {
            return piece >> BITS * (HEIGHT - field) & MASK;
        }

        private static boolean isAtLeast(int piece, int side) {
            return field(piece, WIDTH) >= side && field(piece, HEIGHT) >= side;
        }
    }

    /** The best tree of every piece, for both ways and all stages, while certain parts are wanted. */
    private static final class Tables {
        // A length of 0 has a place too: what is not there scores 0 like waste.
        private static final int LENGTHS = LONGEST + 1;
        private static final int SIZE = (MOST_STAGES + 1) * 2 * LENGTHS * LENGTHS;
        // More than the cuts of any tree, so that a larger value always outdoes fewer cuts.
        private static final int VALUE_UNIT = 1024;

        private final int kerf;
        // Value * VALUE_UNIT - cuts: it adds up over the two pieces of a cut, and the greatest is best.
        private final int[] scores = new int[SIZE];
        private final int[] choices = new int[SIZE];
        private int wanted = NONE;
        private int stagesFilled = 0;

        private Tables(int kerf) {
            this.kerf = kerf;
        }

        /** The sizes of a part never change, so the same parts make the same tables again. */
        private void fill(Part[] parts, int nowWanted, int stages) {
            if (nowWanted != wanted) {
                wanted = nowWanted;
                stagesFilled = 0;
                fillWithoutCuts(parts);
            }
            for (int s = stagesFilled + 1; s <= stages && s <= MOST_STAGES; s++) {
                fillStage(s);
                stagesFilled = s;
            }
        }

        private int valueOf(int stages, int way, int width, int height) {
            return (scoreOf(stages, way, width, height) + VALUE_UNIT - 1) / VALUE_UNIT;
        }

        private int scoreOf(int stages, int way, int width, int height) {
            return scoreAt(placeOf(stages, way, width, height));
        }

        private int choiceOf(int stages, int way, int width, int height) {
            return choiceAt(placeOf(stages, way, width, height));
        }

        private static int placeOf(int stages, int way, int width, int height) {
            return ((stages * 2 + way) * LENGTHS + width) * LENGTHS + height;
        }

        private int scoreAt(int place) {
            return place >= 0 && place < scores.length ? scores[place] : 0;
        }

        private int choiceAt(int place) {
            return place >= 0 && place < choices.length ? choices[place] : WASTE;
        }

        private void put(int place, int score, int choice) {
            if (place >= 0 && place < scores.length && place < choices.length) {
                scores[place] = score;
                choices[place] = choice;
            }
        }

        private void fillWithoutCuts(Part[] parts) {
            Arrays.fill(scores, 0);
            Arrays.fill(choices, WASTE);
            // From the last to the first: of parts of the same size the first one stays.
            for (int p = parts.length - 1; p >= 0; p--) {
                if ((wanted >> p & 1) == 1) {
                    putPart(p, parts[p].width, parts[p].height);
                    if (parts[p].turns) {
                        putPart(p, parts[p].height, parts[p].width);
                    }
                }
            }
        }

        private void putPart(int number, int width, int height) {
            int score = width * height * VALUE_UNIT;
            put(placeOf(0, 0, width, height), score, number);
            put(placeOf(0, 1, width, height), score, number);
        }

        private void fillStage(int stages) {
            for (int width = 1; width <= LONGEST; width++) {
                for (int height = 1; height <= LONGEST; height++) {
                    choose(stages, 0, width, height);
                    choose(stages, 1, width, height);
                }
            }
        }

        private void choose(int stages, int way, int width, int height) {
            int uncut = placeOf(0, way, width, height);
            int best = scoreAt(uncut);
            int choice = choiceAt(uncut);
            int length = way == 0 ? width : height;
            int step = way == 0 ? placeOf(0, 0, 1, 0) : placeOf(0, 0, 0, 1);
            // Where the length would be 0: c steps further stands what is c long.
            int firsts = placeOf(stages - 1, 1 - way, width, height) - length * step;
            int seconds = placeOf(stages, way, width, height) - length * step;
            for (int c = 1; c < length; c++) {
                int second = Math.max(0, length - c - kerf);
                int score = scoreAt(firsts + c * step) + scoreAt(seconds + second * step) - 1;
                if (score > best) {
                    best = score;
                    choice = WASTE + c;
                }
            }
            put(seconds + length * step, best, choice);
        }
    }

    /** The tree of one sheet laid out: its uncut pieces in turn, and what its cuts add up to. */
    private static final class Layout {
        private final Tables tables;
        private final int[] pieces = new int[MOST_PIECES];
        private final int[] copies = new int[MOST_PARTS];
        private int pieceCount = 0;
        private int way = 0;
        private int cuts = 0;
        private int minutes = 0;

        private Layout(Tables tables) {
            this.tables = tables;
        }

        private void lay(Sheet sheet, int stages) {
            pieceCount = 0;
            cuts = 0;
            minutes = 0;
            Arrays.fill(copies, 0);
            int score0 = tables.scoreOf(stages, 0, sheet.width, sheet.height);
            int score1 = tables.scoreOf(stages, 1, sheet.width, sheet.height);
            way = score1 > score0 ? 1 : 0;
            layTree(0, 0, sheet.width, sheet.height, way, stages);
        }

        /** Goes along the second pieces and calls itself for first ones alone: stages end its depth. */
        private void layTree(int x, int y, int width, int height, int way, int stages) {
            int length = way == 0 ? width : height;
            int across = way == 0 ? height : width;
            int from = 0;
            for (int i = 0; i < LONGEST && from < length; i++) {
                int nowX = way == 0 ? x + from : x;
                int nowY = way == 0 ? y : y + from;
                int nowWidth = way == 0 ? length - from : width;
                int nowHeight = way == 0 ? height : length - from;
                int choice = tables.choiceOf(stages, way, nowWidth, nowHeight);
                if (choice <= WASTE || stages < 1) {
                    addPiece(choice, Piece.of(choice, nowX, nowY, nowWidth, nowHeight));
                    return;
                }
                int c = choice - WASTE;
                cuts++;
                minutes += across;
                if (way == 0) {
                    layTree(nowX, nowY, c, nowHeight, 1, stages - 1);
                } else {
                    layTree(nowX, nowY, nowWidth, c, 0, stages - 1);
                }
                from += c + tables.kerf;
            }
        }

        private void addPiece(int choice, int piece) {
            if (pieceCount < pieces.length) {
                pieces[pieceCount++] = piece;
            }
            if (choice >= 0 && choice < copies.length) {
                copies[choice]++;
            }
        }

        /** The area of the parts of which copies are left, as far as they are left. */
        private int areaToTake(Part[] parts) {
            int area = 0;
            for (int p = 0; p < copies.length && p < parts.length; p++) {
                area += Math.min(copies[p], parts[p].left) * parts[p].area();
            }
            return area;
        }

        /** The parts that stand in the tree, be they taken or not, a bit each. */
        private int partsUsed() {
            int used = 0;
            for (int p = 0; p < copies.length; p++) {
                used |= copies[p] > 0 ? 1 << p : 0;
            }
            return used;
        }
    }
}
