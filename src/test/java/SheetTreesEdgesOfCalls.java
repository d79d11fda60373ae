/**
 * Promise by promise: of each number that a call takes the last value that is allowed and the first
 * that is not, on both sides, and which of several exceptions is thrown.
 */
public final class SheetTreesEdgesOfCalls {
    /**
     * 10 by 6 with a kerf of 1: cut at 3 of the height; of the 10 by 3 two parts of 4 by 3 are cut,
     * the 10 by 2 behind it is a rest.
     */
    private static final String STRIP = """
            new 1 2 2
            sheet 10 6 100 1 = 0
            part 4 3 3 false = 0
            run = 1
            """;

    public static void main(String[] args) {
        kerf();
        stages();
        least();
        sheetSides();
        sheetCents();
        sheetStock();
        fourSheets();
        partSides();
        partCount();
        eightParts();
        countOfAPart();
        worth();
        cut();
        taken();
        rest();
        left();
        all();
        bound();
        Edge.finish();
    }

    private static void kerf() {
        // Ones on a length: each but the last costs 1 + KERF. On 9 a kerf of 3 gives one more than of 4.
        Edge.test("Promise 1: KERF 0", """
                new 0 1 1
                part 1 1 1 false = 0
                worth 7 1 0 1 = 7
                """);
        Edge.test("Promise 1: KERF -1 is 0", """
                new -1 1 1
                part 1 1 1 false = 0
                worth 7 1 0 1 = 7
                """);
        Edge.test("Promise 1: the least KERF is 0", """
                new min 1 1
                part 1 1 1 false = 0
                worth 7 1 0 1 = 7
                """);
        Edge.test("Promise 1: KERF 1", """
                new 1 1 1
                part 1 1 1 false = 0
                worth 7 1 0 1 = 4
                """);
        Edge.test("Promise 1: KERF 2", """
                new 2 1 1
                part 1 1 1 false = 0
                worth 7 1 0 1 = 3
                """);
        Edge.test("Promise 1: KERF 3", """
                new 3 1 1
                part 1 1 1 false = 0
                worth 7 1 0 1 = 2
                worth 9 1 0 1 = 3
                """);
        Edge.test("Promise 1: KERF 4 is 3", """
                new 4 1 1
                part 1 1 1 false = 0
                worth 7 1 0 1 = 2
                worth 9 1 0 1 = 3
                """);
        Edge.test("Promise 1: the greatest KERF is 3", """
                new max 1 1
                part 1 1 1 false = 0
                worth 7 1 0 1 = 2
                worth 9 1 0 1 = 3
                """);
    }

    private static void stages() {
        // One stage gives no part; two give 4 by 2 twice, and one copy is wanted; three give both parts.
        String threeTell = """
                sheet 5 5 1 1 = 0
                part 3 3 1 false = 0
                part 4 2 1 false = 1
                """;
        Edge.test("Promise 1: STAGES 1", "new 0 1 1\n" + threeTell + "run = 0\n");
        Edge.test("Promise 1: STAGES 0 is 1", "new 0 0 1\n" + threeTell + "run = 0\n");
        Edge.test("Promise 1: the least STAGES are 1", "new 0 min 1\n" + threeTell + "run = 0\n");
        Edge.test("Promise 1: STAGES 0 is not without cuts", """
                new 0 0 1
                sheet 5 5 1 1 = 0
                part 3 5 1 false = 0
                run = 1
                all 2 = 15
                """);
        Edge.test("Promise 1: STAGES 2", "new 0 2 1\n" + threeTell + "run = 1\nall 2 = 8\n");
        Edge.test("Promise 1: STAGES 3", "new 0 3 1\n" + threeTell + "run = 1\nall 2 = 17\n");
        // Four stages would give 25 here.
        String fourTell = """
                sheet 6 5 1 1 = 0
                part 2 1 50 false = 0
                part 3 2 50 false = 1
                part 5 3 50 false = 2
                run = 1
                all 2 = 24
                """;
        Edge.test("Promise 1: STAGES 3 is not 4", "new 0 3 1\n" + fourTell);
        Edge.test("Promise 1: STAGES 4 is 3", "new 0 4 1\n" + fourTell);
        Edge.test("Promise 1: the greatest STAGES are 3", "new 0 max 1\n" + fourTell);
    }

    private static void least() {
        // The rests are 1 by 1 (cut sheet 0) and 8 by 16 (cut sheet 1): none can be larger both ways.
        String tell = """
                sheet 3 1 1 1 = 0
                sheet 16 16 1000 1 = 1
                part 2 1 1 false = 0
                part 8 8 1 false = 1
                run = 2
                """;
        String both = tell + """
                cut 0 6 = 1
                cut 1 6 = 1
                rest 0 0 * = 0 0 1 1
                rest 1 0 * = 8 0 8 16
                """;
        String large = tell + """
                cut 0 6 = 0
                cut 1 6 = 1
                rest 0 0 0 ! IndexOutOfBounds
                rest 1 0 * = 8 0 8 16
                """;
        String none = tell + """
                cut 0 6 = 0
                cut 1 6 = 0
                rest 1 0 0 ! IndexOutOfBounds
                """;
        Edge.test("Promise 1: LEAST 1", "new 0 2 1\n" + both);
        Edge.test("Promise 1: LEAST 0 is 1", "new 0 2 0\n" + both);
        Edge.test("Promise 1: LEAST -1 is 1", "new 0 2 -1\n" + both);
        Edge.test("Promise 1: the least LEAST is 1", "new 0 2 min\n" + both);
        Edge.test("Promise 1: LEAST 2", "new 0 2 2\n" + large);
        Edge.test("Promise 1: LEAST 8", "new 0 2 8\n" + large);
        Edge.test("Promise 1: LEAST 9", "new 0 2 9\n" + none);
        Edge.test("Promise 1: LEAST 16", "new 0 2 16\n" + none);
        Edge.test("Promise 1: LEAST 17 is 16", "new 0 2 17\n" + none);
        Edge.test("Promise 1: the greatest LEAST is 16", "new 0 2 max\n" + none);
    }

    private static void sheetSides() {
        Edge.test("Promise 2: width 1, not 0", """
                new 0 1 1
                sheet 0 5 1 1 ! IllegalArgument
                sheet -1 5 1 1 ! IllegalArgument
                sheet min 5 1 1 ! IllegalArgument
                sheet 1 5 1 1 = 0
                part 1 5 1 false = 0
                run = 1
                all 1 = 5
                """);
        Edge.test("Promise 2: width 16, not 17", """
                new 0 1 1
                sheet 17 5 1 1 ! IllegalArgument
                sheet max 5 1 1 ! IllegalArgument
                sheet 16 5 1 1 = 0
                part 16 5 1 false = 0
                run = 1
                all 1 = 80
                """);
        Edge.test("Promise 2: height 1, not 0", """
                new 0 1 1
                sheet 5 0 1 1 ! IllegalArgument
                sheet 5 -1 1 1 ! IllegalArgument
                sheet 5 min 1 1 ! IllegalArgument
                sheet 5 1 1 1 = 0
                part 5 1 1 false = 0
                run = 1
                all 1 = 5
                """);
        Edge.test("Promise 2: height 16, not 17", """
                new 0 1 1
                sheet 5 17 1 1 ! IllegalArgument
                sheet 5 max 1 1 ! IllegalArgument
                sheet 5 16 1 1 = 0
                part 5 16 1 false = 0
                run = 1
                all 1 = 80
                """);
    }

    private static void sheetCents() {
        Edge.test("Promise 2: cents 1, not 0", """
                new 0 1 1
                sheet 5 5 0 1 ! IllegalArgument
                sheet 5 5 -1 1 ! IllegalArgument
                sheet 5 5 min 1 ! IllegalArgument
                sheet 5 5 1 1 = 0
                part 5 5 1 false = 0
                run = 1
                all 0 = 1
                """);
        Edge.test("Promise 2: cents 10000, not 10001", """
                new 0 1 1
                sheet 5 5 10001 1 ! IllegalArgument
                sheet 5 5 max 1 ! IllegalArgument
                sheet 5 5 10000 1 = 0
                part 5 5 1 false = 0
                run = 1
                all 0 = 10000
                """);
    }

    private static void sheetStock() {
        Edge.test("Promise 2: stock 0, not -1", """
                new 0 1 1
                sheet 5 5 1 -1 ! IllegalArgument
                sheet 5 5 1 min ! IllegalArgument
                sheet 5 5 1 0 = 0
                part 5 5 1 false = 0
                run = 0
                """);
        Edge.test("Promise 2: stock 20, not 21", """
                new 0 1 1
                sheet 5 5 1 21 ! IllegalArgument
                sheet 5 5 1 max ! IllegalArgument
                sheet 5 5 1 20 = 0
                part 5 5 50 false = 0
                run = 20
                """);
    }

    private static void fourSheets() {
        String four = """
                new 0 1 1
                sheet 1 1 1 1 = 0
                sheet 1 1 1 1 = 1
                sheet 1 1 1 1 = 2
                sheet 1 1 1 1 = 3
                """;
        Edge.test("Promise 2: there are 4", four + """
                sheet 1 1 1 1 ! IllegalState
                sheet 16 16 10000 20 ! IllegalState
                part 1 1 50 false = 0
                run = 4
                cut 3 0 = 3
                """);
        Edge.test("Promise 2: a wrong side is named before that there are 4", four + """
                sheet 0 1 1 1 ! IllegalArgument
                sheet 1 17 1 1 ! IllegalArgument
                """);
        Edge.test("Promise 2: wrong cents are named before that there are 4", four + """
                sheet 1 1 0 1 ! IllegalArgument
                sheet 1 1 10001 1 ! IllegalArgument
                """);
        Edge.test("Promise 2: a wrong stock is named before that there are 4", four + """
                sheet 1 1 1 -1 ! IllegalArgument
                sheet 1 1 1 21 ! IllegalArgument
                """);
    }

    private static void partSides() {
        Edge.test("Promise 3: width 1, not 0", """
                new 0 1 1
                part 0 5 1 false ! IllegalArgument
                part -1 5 1 false ! IllegalArgument
                part min 5 1 true ! IllegalArgument
                part 1 5 1 false = 0
                worth 1 5 0 0 = 5
                """);
        Edge.test("Promise 3: width 16, not 17", """
                new 0 1 1
                part 17 5 1 false ! IllegalArgument
                part max 5 1 true ! IllegalArgument
                part 16 5 1 false = 0
                worth 16 5 0 0 = 80
                """);
        Edge.test("Promise 3: height 1, not 0", """
                new 0 1 1
                part 5 0 1 false ! IllegalArgument
                part 5 -1 1 false ! IllegalArgument
                part 5 min 1 true ! IllegalArgument
                part 5 1 1 false = 0
                worth 5 1 0 0 = 5
                """);
        Edge.test("Promise 3: height 16, not 17", """
                new 0 1 1
                part 5 17 1 false ! IllegalArgument
                part 5 max 1 true ! IllegalArgument
                part 5 16 1 false = 0
                worth 5 16 0 0 = 80
                """);
        Edge.test("Promise 3: 16 by 16", """
                new 0 1 1
                part 16 16 1 true = 0
                worth 16 16 0 0 = 256
                """);
    }

    private static void partCount() {
        Edge.test("Promise 3: count 0, not -1", """
                new 0 1 1
                part 5 5 -1 false ! IllegalArgument
                part 5 5 min false ! IllegalArgument
                part 5 5 0 false = 0
                sheet 5 5 1 1 = 0
                worth 5 5 0 0 = 0
                run = 0
                left 0 = 0
                """);
        Edge.test("Promise 3: count 1 is wanted", """
                new 0 1 1
                part 5 5 1 false = 0
                sheet 5 5 1 2 = 0
                worth 5 5 0 0 = 25
                run = 1
                left 0 = 0
                """);
        Edge.test("Promise 3: count 50, not 51", """
                new 0 2 1
                part 1 1 51 false ! IllegalArgument
                part 1 1 max false ! IllegalArgument
                part 1 1 50 false = 0
                sheet 16 16 1 1 = 0
                run = 1
                cut 0 1 = 50
                left 0 = 0
                count 0 50 = 50
                """);
    }

    private static void eightParts() {
        String eight = """
                new 0 1 1
                part 1 1 1 false = 0
                part 1 1 1 false = 1
                part 1 1 1 false = 2
                part 1 1 1 false = 3
                part 1 1 1 false = 4
                part 1 1 1 false = 5
                part 1 1 1 false = 6
                part 1 1 1 false = 7
                """;
        Edge.test("Promise 3: there are 8", eight + """
                part 1 1 1 false ! IllegalState
                part 16 16 50 true ! IllegalState
                sheet 1 1 1 20 = 0
                run = 8
                taken 7 0 0 = 7
                left 7 = 0
                left 8 ! IndexOutOfBounds
                """);
        Edge.test("Promise 3: a wrong side is named before that there are 8", eight + """
                part 0 1 1 false ! IllegalArgument
                part 1 17 1 false ! IllegalArgument
                """);
        Edge.test("Promise 3: a wrong count is named before that there are 8", eight + """
                part 1 1 -1 false ! IllegalArgument
                part 1 1 51 false ! IllegalArgument
                """);
    }

    private static void countOfAPart() {
        Edge.test("Promise 4: the one before", """
                new 0 1 1
                part 2 2 3 false = 0
                part 2 2 4 false = 1
                count 0 5 = 3
                count 0 6 = 5
                count 1 7 = 4
                count 0 6 = 6
                """);
        Edge.test("Promise 4: no part", """
                new 0 1 1
                count 0 1 ! IndexOutOfBounds
                """);
        Edge.test("Promise 4: the first part, not the one before it", """
                new 0 1 1
                part 2 2 3 false = 0
                count -1 1 ! IndexOutOfBounds
                count min 1 ! IndexOutOfBounds
                count 0 1 = 3
                """);
        Edge.test("Promise 4: the last part, not the one behind it", """
                new 0 1 1
                part 2 2 3 false = 0
                part 2 2 4 false = 1
                count 2 1 ! IndexOutOfBounds
                count 7 1 ! IndexOutOfBounds
                count 8 1 ! IndexOutOfBounds
                count max 1 ! IndexOutOfBounds
                count 1 1 = 4
                """);
        Edge.test("Promise 4: count 0, not -1", """
                new 0 1 1
                part 2 2 3 false = 0
                count 0 -1 ! IllegalArgument
                count 0 min ! IllegalArgument
                count 0 0 = 3
                worth 2 2 0 0 = 0
                """);
        Edge.test("Promise 4: count 50, not 51", """
                new 0 1 1
                part 2 2 3 false = 0
                count 0 51 ! IllegalArgument
                count 0 max ! IllegalArgument
                count 0 50 = 3
                count 0 1 = 50
                """);
        Edge.test("Promise 4: that there is no such part is named before a wrong count", """
                new 0 1 1
                count 0 51 ! IndexOutOfBounds
                part 2 2 3 false = 0
                count 1 -1 ! IndexOutOfBounds
                count -1 51 ! IndexOutOfBounds
                """);
    }

    private static void worth() {
        String ones = """
                new 0 1 1
                part 1 1 1 false = 0
                """;
        Edge.test("Promise 5: width 1, not 0", ones + """
                worth 0 1 0 1 ! IllegalArgument
                worth -1 1 0 1 ! IllegalArgument
                worth min 1 0 1 ! IllegalArgument
                worth 1 1 0 1 = 1
                """);
        Edge.test("Promise 5: width 16, not 17", ones + """
                worth 17 1 0 1 ! IllegalArgument
                worth max 1 0 1 ! IllegalArgument
                worth 16 1 0 1 = 16
                """);
        Edge.test("Promise 5: height 1, not 0", ones + """
                worth 1 0 1 1 ! IllegalArgument
                worth 1 -1 1 1 ! IllegalArgument
                worth 1 min 1 1 ! IllegalArgument
                worth 1 1 1 1 = 1
                """);
        Edge.test("Promise 5: height 16, not 17", ones + """
                worth 1 17 1 1 ! IllegalArgument
                worth 1 max 1 1 ! IllegalArgument
                worth 1 16 1 1 = 16
                """);
        Edge.test("Promise 5: way 0 and 1, not -1 and 2", ones + """
                worth 2 1 -1 1 ! IllegalArgument
                worth 2 1 2 1 ! IllegalArgument
                worth 2 1 min 1 ! IllegalArgument
                worth 2 1 max 1 ! IllegalArgument
                worth 2 1 0 1 = 2
                worth 2 1 1 1 = 0
                """);
        Edge.test("Promise 5: stages 0, not -1", ones + """
                worth 2 1 0 -1 ! IllegalArgument
                worth 2 1 0 min ! IllegalArgument
                worth 2 1 0 0 = 0
                worth 1 1 0 0 = 1
                """);
        Edge.test("Promise 5: stages 3, not 4, in an object with 1", """
                new 0 1 1
                part 3 3 1 false = 0
                part 4 2 1 false = 1
                worth 5 5 0 4 ! IllegalArgument
                worth 5 5 0 max ! IllegalArgument
                worth 5 5 0 1 = 0
                worth 5 5 0 2 = 16
                worth 5 5 0 3 = 17
                """);
        Edge.test("Promise 5: stages are no more than asked for, in an object with 3", """
                new 0 3 1
                part 3 3 1 false = 0
                part 4 2 1 false = 1
                worth 5 5 0 3 = 17
                worth 5 5 0 2 = 16
                worth 5 5 0 1 = 0
                """);
        Edge.test("Promise 5: no part", """
                new 0 3 1
                worth 16 16 0 3 = 0
                worth 1 1 1 0 = 0
                """);
        Edge.test("Promise 5: the same part counts as often as it fits", """
                new 0 1 1
                part 1 1 1 false = 0
                worth 16 1 0 1 = 16
                """);
        Edge.test("Promise 5: parts with a count of 0 are not wanted, with 1 they are", """
                new 0 1 1
                part 2 1 0 false = 0
                part 3 1 1 false = 1
                worth 5 1 0 1 = 3
                count 0 1 = 0
                worth 5 1 0 1 = 5
                count 1 0 = 1
                worth 5 1 0 1 = 4
                """);
        Edge.test("Promise 5: wanted by its count, though a run has taken all copies", """
                new 0 1 1
                sheet 3 1 1 1 = 0
                part 3 1 1 false = 0
                run = 1
                left 0 = 0
                worth 3 1 0 0 = 3
                """);
    }

    private static void cut() {
        Edge.test("Promise 7: what 0 .. 7, not -1 and 8", STRIP + """
                cut 0 -1 ! IndexOutOfBounds
                cut 0 8 ! IndexOutOfBounds
                cut 0 min ! IndexOutOfBounds
                cut 0 max ! IndexOutOfBounds
                cut 0 * = 0 2 24 3 1 16 1 0
                """);
        Edge.test("Promise 7: the first cut sheet, not the one before it", STRIP + """
                cut -1 0 ! IndexOutOfBounds
                cut min 0 ! IndexOutOfBounds
                cut 0 0 = 0
                """);
        Edge.test("Promise 7: the last cut sheet, not the one behind it", STRIP + """
                cut 1 0 ! IndexOutOfBounds
                cut 19 0 ! IndexOutOfBounds
                cut 20 0 ! IndexOutOfBounds
                cut max 0 ! IndexOutOfBounds
                cut 0 0 = 0
                """);
        Edge.test("Promise 7: no cut sheet", """
                new 0 1 1
                run = 0
                cut 0 0 ! IndexOutOfBounds
                """);
        Edge.test("Promise 7: twenty cut sheets", """
                new 0 1 1
                sheet 1 1 1 20 = 0
                part 1 1 50 false = 0
                run = 20
                cut 19 * = 0 1 1 0 0 0 0 0
                cut 20 0 ! IndexOutOfBounds
                """);
        Edge.test("Promise 7: that nothing was run is named before a wrong cut sheet or what", """
                new 0 1 1
                cut 0 0 ! IllegalState
                cut -1 0 ! IllegalState
                cut 20 0 ! IllegalState
                cut 0 -1 ! IllegalState
                cut 0 8 ! IllegalState
                """);
    }

    private static void taken() {
        Edge.test("Promise 8: what 0 .. 4, not -1 and 5", STRIP + """
                taken 0 1 -1 ! IndexOutOfBounds
                taken 0 1 5 ! IndexOutOfBounds
                taken 0 1 min ! IndexOutOfBounds
                taken 0 1 max ! IndexOutOfBounds
                taken 0 1 * = 0 5 0 4 3
                """);
        Edge.test("Promise 8: the first that is taken, not the one before it", STRIP + """
                taken 0 -1 0 ! IndexOutOfBounds
                taken 0 min 0 ! IndexOutOfBounds
                taken 0 0 * = 0 0 0 4 3
                """);
        Edge.test("Promise 8: the last that is taken, not the one behind it", STRIP + """
                taken 0 2 0 ! IndexOutOfBounds
                taken 0 max 0 ! IndexOutOfBounds
                taken 0 1 0 = 0
                """);
        Edge.test("Promise 8: behind the last of one cut sheet is not the first of the next", """
                new 0 1 1
                sheet 2 1 1 2 = 0
                part 1 1 4 false = 0
                run = 2
                taken 0 1 0 = 0
                taken 0 2 0 ! IndexOutOfBounds
                taken 1 -1 0 ! IndexOutOfBounds
                taken 1 1 0 = 0
                taken 1 2 0 ! IndexOutOfBounds
                """);
        Edge.test("Promise 8: the first and the last cut sheet, not those beside them", STRIP + """
                taken -1 0 0 ! IndexOutOfBounds
                taken 1 0 0 ! IndexOutOfBounds
                taken min 0 0 ! IndexOutOfBounds
                taken max 0 0 ! IndexOutOfBounds
                taken 0 0 0 = 0
                """);
        Edge.test("Promise 8: no cut sheet", """
                new 0 1 1
                run = 0
                taken 0 0 0 ! IndexOutOfBounds
                """);
        Edge.test("Promise 8: that nothing was run is named before a wrong number", """
                new 0 1 1
                taken 0 0 0 ! IllegalState
                taken -1 0 0 ! IllegalState
                taken 0 -1 0 ! IllegalState
                taken 0 0 5 ! IllegalState
                """);
        Edge.test("Promise 8: as far off as a place can be", """
                new 0 1 1
                sheet 1 16 1 1 = 0
                part 1 1 50 false = 0
                run = 1
                taken 0 15 * = 0 0 15 1 1
                new 0 1 1
                sheet 16 1 1 1 = 0
                part 1 1 50 false = 0
                run = 1
                taken 0 15 * = 0 15 0 1 1
                """);
        Edge.test("Promise 8: as large as a part can be", """
                new 0 1 1
                sheet 16 16 1 1 = 0
                part 16 16 1 false = 0
                run = 1
                taken 0 0 * = 0 0 0 16 16
                """);
        Edge.test("Promise 8: a part lies turned only if it must", """
                new 0 1 1
                sheet 3 2 1 1 = 0
                sheet 2 3 1 1 = 1
                part 3 2 2 true = 0
                run = 2
                taken 0 0 * = 0 0 0 3 2
                taken 1 0 * = 0 0 0 2 3
                """);
    }

    private static void rest() {
        Edge.test("Promise 9: what 0 .. 3, not -1 and 4", STRIP + """
                rest 0 0 -1 ! IndexOutOfBounds
                rest 0 0 4 ! IndexOutOfBounds
                rest 0 0 min ! IndexOutOfBounds
                rest 0 0 max ! IndexOutOfBounds
                rest 0 0 * = 0 4 10 2
                """);
        Edge.test("Promise 9: the only rest, not those beside it", STRIP + """
                rest 0 -1 0 ! IndexOutOfBounds
                rest 0 1 0 ! IndexOutOfBounds
                rest 0 min 0 ! IndexOutOfBounds
                rest 0 max 0 ! IndexOutOfBounds
                rest 0 0 1 = 4
                """);
        Edge.test("Promise 9: no rest", """
                new 0 1 1
                sheet 1 1 1 1 = 0
                part 1 1 1 false = 0
                run = 1
                cut 0 6 = 0
                rest 0 0 0 ! IndexOutOfBounds
                """);
        Edge.test("Promise 9: behind the last of one cut sheet is not the first of the next", """
                new 0 1 1
                sheet 3 1 1 2 = 0
                part 2 1 2 false = 0
                run = 2
                rest 0 0 * = 0 0 1 1
                rest 0 1 0 ! IndexOutOfBounds
                rest 1 -1 0 ! IndexOutOfBounds
                rest 1 0 * = 0 0 1 1
                rest 1 1 0 ! IndexOutOfBounds
                """);
        Edge.test("Promise 9: the first and the last cut sheet, not those beside them", STRIP + """
                rest -1 0 0 ! IndexOutOfBounds
                rest 1 0 0 ! IndexOutOfBounds
                rest min 0 0 ! IndexOutOfBounds
                rest max 0 0 ! IndexOutOfBounds
                rest 0 0 0 = 0
                """);
        Edge.test("Promise 9: no cut sheet", """
                new 0 1 1
                run = 0
                rest 0 0 0 ! IndexOutOfBounds
                """);
        Edge.test("Promise 9: that nothing was run is named before a wrong number", """
                new 0 1 1
                rest 0 0 0 ! IllegalState
                rest -1 0 0 ! IllegalState
                rest 0 -1 0 ! IllegalState
                rest 0 0 4 ! IllegalState
                """);
    }

    private static void left() {
        Edge.test("Promise 10: the only part, not those beside it", STRIP + """
                left -1 ! IndexOutOfBounds
                left 1 ! IndexOutOfBounds
                left min ! IndexOutOfBounds
                left max ! IndexOutOfBounds
                left 0 = 1
                """);
        Edge.test("Promise 10: no part", """
                new 0 1 1
                run = 0
                left 0 ! IndexOutOfBounds
                """);
        Edge.test("Promise 10: none, some and all copies are taken", """
                new 0 1 1
                sheet 3 1 1 1 = 0
                part 2 1 1 false = 0
                part 1 1 2 false = 1
                part 4 1 50 false = 2
                part 3 1 0 false = 3
                run = 1
                left * = 0 1 50 0
                """);
        Edge.test("Promise 10: that nothing was run is named before a wrong part", """
                new 0 1 1
                left 0 ! IllegalState
                left -1 ! IllegalState
                left 8 ! IllegalState
                """);
    }

    private static void all() {
        Edge.test("Promise 11: what 0 .. 2, not -1 and 3", STRIP + """
                all -1 ! IndexOutOfBounds
                all 3 ! IndexOutOfBounds
                all min ! IndexOutOfBounds
                all max ! IndexOutOfBounds
                all * = 100 60 24
                """);
        Edge.test("Promise 11: nothing cut", """
                new 0 1 1
                run = 0
                all * = 0 0 0
                all 3 ! IndexOutOfBounds
                """);
        Edge.test("Promise 11: as much as a run can cut", """
                new 0 1 1
                sheet 16 16 10000 20 = 0
                part 16 16 50 false = 0
                run = 20
                all * = 200000 5120 5120
                """);
        Edge.test("Promise 11: that nothing was run is named before a wrong what", """
                new 0 1 1
                all 0 ! IllegalState
                all -1 ! IllegalState
                all 3 ! IllegalState
                """);
    }

    private static void bound() {
        Edge.test("Promise 12: nothing told", """
                new 0 1 1
                bound = 0
                """);
        Edge.test("Promise 12: no sheet", """
                new 0 1 1
                part 16 16 50 false = 0
                bound = 0
                """);
        Edge.test("Promise 12: no part", """
                new 0 1 1
                sheet 16 16 1 1 = 0
                bound = 0
                """);
        Edge.test("Promise 12: counts of 0", """
                new 0 1 1
                sheet 4 4 1 1 = 0
                part 4 4 0 false = 0
                bound = 0
                count 0 1 = 0
                bound = 1
                """);
        Edge.test("Promise 12: just as much, and one more or less: upwards", """
                new 0 1 1
                sheet 4 3 1 1 = 0
                part 1 1 11 false = 0
                bound = 1
                count 0 12 = 11
                bound = 1
                count 0 13 = 12
                bound = 2
                count 0 24 = 13
                bound = 2
                count 0 25 = 24
                bound = 3
                """);
        Edge.test("Promise 12: the least part by the largest sheet", """
                new 0 1 1
                sheet 16 16 1 1 = 0
                part 1 1 1 false = 0
                bound = 1
                """);
        Edge.test("Promise 12: the largest parts by the least sheet", """
                new 0 1 1
                sheet 1 1 1 1 = 0
                part 16 16 50 false = 0
                part 16 16 50 false = 1
                part 16 16 50 false = 2
                part 16 16 50 false = 3
                part 16 16 50 false = 4
                part 16 16 50 false = 5
                part 16 16 50 false = 6
                part 16 16 50 false = 7
                bound = 102400
                """);
        Edge.test("Promise 12: the largest sheet by its area, be it the first, one between or the last", """
                new 0 1 1
                part 1 1 40 false = 0
                sheet 16 1 1 1 = 0
                bound = 3
                sheet 5 4 1 1 = 1
                bound = 2
                sheet 1 16 1 1 = 2
                bound = 2
                sheet 8 5 1 1 = 3
                bound = 1
                new 0 1 1
                part 1 1 40 false = 0
                sheet 8 5 1 1 = 0
                sheet 16 1 1 1 = 1
                bound = 1
                """);
        Edge.test("Promise 12: the largest sheet, be its stock 0", """
                new 0 1 1
                part 1 1 10 false = 0
                sheet 1 1 1 20 = 0
                bound = 10
                sheet 5 1 1 0 = 1
                bound = 2
                """);
        Edge.test("Promise 12: parts that fit on no sheet count too", """
                new 3 1 1
                sheet 2 2 1 1 = 0
                part 16 1 1 false = 0
                bound = 4
                """);
        Edge.test("Promise 12: a run changes no bound", STRIP + """
                bound = 1
                count 0 6 = 3
                bound = 2
                run = 1
                bound = 2
                """);
    }
}
