/** The document's terms on runs: how often and what they cut, when they end, what stands before and after them. */
public final class SheetTreesEdgesOfRuns {
    private static final String TELL_STRIP = """
            new 1 2 2
            sheet 10 6 100 1 = 0
            part 4 3 3 false = 0
            """;
    private static final String STRIP = TELL_STRIP + "run = 1\n";
    private static final String STRIP_STANDS = """
            cut 0 * = 0 2 24 3 1 16 1 0
            taken 0 0 * = 0 0 0 4 3
            taken 0 1 * = 0 5 0 4 3
            rest 0 0 * = 0 4 10 2
            left 0 = 1
            all * = 100 60 24
            """;
    private static final String STRIP_TOLD = """
            bound = 1
            worth 4 3 0 0 = 12
            worth 10 6 1 2 = 24
            run = 1
            """ + STRIP_STANDS;
    private static final String NEXT_ARE_1 = """
            sheet 1 1 1 1 = 1
            part 1 1 1 false = 1
            """;
    private static final String NOTHING_RUN = """
            cut 0 0 ! IllegalState
            taken 0 0 0 ! IllegalState
            rest 0 0 0 ! IllegalState
            left 0 ! IllegalState
            all 0 ! IllegalState
            """;

    public static void main(String[] args) {
        nothingToCut();
        howOften();
        whenItEnds();
        mostForItsCents();
        fractions();
        asTold();
        everythingFull();
        beforeARun();
        toldSince();
        nothingToldSince();
        refusedTelling();
        refusedForRoom();
        refusedQuestions();
        lastCall();
        Edge.finish();
    }

    private static void nothingToCut() {
        Edge.test("Promise 6: nothing told", """
                new 0 1 1
                run = 0
                all * = 0 0 0
                """);
        Edge.test("Promise 6: no SHEET", """
                new 0 1 1
                part 1 1 5 false = 0
                run = 0
                left 0 = 5
                """);
        Edge.test("Promise 6: no PART", """
                new 0 1 1
                sheet 16 16 1 20 = 0
                run = 0
                all * = 0 0 0
                """);
        Edge.test("Promise 6: a STOCK of 0", """
                new 0 1 1
                sheet 2 2 1 0 = 0
                part 2 2 5 false = 0
                run = 0
                left 0 = 5
                """);
        Edge.test("Promise 6: a COUNT of 0", """
                new 0 1 1
                sheet 2 2 1 5 = 0
                part 2 2 0 false = 0
                run = 0
                left 0 = 0
                """);
        Edge.test("Promise 6: a PART that is 1 too wide or too high", """
                new 0 3 1
                sheet 4 3 1 5 = 0
                part 5 3 1 false = 0
                part 4 4 1 false = 1
                run = 0
                left * = 1 1
                """);
        Edge.test("Promise 6: a PART as large as the SHEET", """
                new 3 1 1
                sheet 4 3 1 5 = 0
                part 4 3 1 false = 0
                run = 1
                cut 0 * = 0 1 12 0 0 0 0 0
                """);
        Edge.test("Promise 6: a PART that fits only TURNED", """
                new 3 1 1
                sheet 4 3 1 5 = 0
                part 3 4 1 false = 0
                run = 0
                new 3 1 1
                sheet 4 3 1 5 = 0
                part 3 4 1 true = 0
                run = 1
                taken 0 0 * = 0 0 0 4 3
                """);
    }

    private static void howOften() {
        String tell = """
                new 0 1 1
                sheet 1 1 1 20 = 0
                """;
        Edge.test("20 times at most: 19", tell + """
                part 1 1 19 false = 0
                run = 19
                cut 18 0 = 0
                cut 19 0 ! IndexOutOfBounds
                left 0 = 0
                """);
        Edge.test("20 times at most: 20", tell + """
                part 1 1 20 false = 0
                run = 20
                cut 19 0 = 0
                left 0 = 0
                """);
        Edge.test("20 times at most: not 21", tell + """
                sheet 1 1 1 1 = 1
                part 1 1 21 false = 0
                run = 20
                cut 19 0 = 0
                cut 20 0 ! IndexOutOfBounds
                left 0 = 1
                """);
        Edge.test("20 times at most: of 80 in stock", tell + """
                sheet 1 1 1 20 = 1
                sheet 1 1 1 20 = 2
                sheet 1 1 1 20 = 3
                part 1 1 50 false = 0
                run = 20
                left 0 = 30
                all * = 20 20 20
                """);
        Edge.test("20 times at most: 19 of one SHEET and 1 of another", """
                new 0 1 1
                sheet 1 1 1 19 = 0
                sheet 1 1 2 20 = 1
                part 1 1 50 false = 0
                run = 20
                cut 18 0 = 0
                cut 19 0 = 1
                all 0 = 21
                """);
    }

    private static void whenItEnds() {
        Edge.test("Until nothing more is TAKEN: all copies are", """
                new 0 1 1
                sheet 3 3 1 5 = 0
                part 3 3 2 false = 0
                run = 2
                left 0 = 0
                """);
        Edge.test("Until nothing more is TAKEN: what is left fits nowhere", """
                new 0 1 1
                sheet 3 3 1 5 = 0
                part 3 3 2 false = 0
                part 4 1 9 false = 1
                run = 2
                left * = 0 9
                """);
        Edge.test("Until nothing more is TAKEN: the STOCK is used up", """
                new 0 1 1
                sheet 3 3 1 2 = 0
                part 3 3 5 false = 0
                run = 2
                left 0 = 3
                """);
        Edge.test("Until nothing more is TAKEN from any: one used up, one that fits", """
                new 0 1 1
                sheet 2 1 1 1 = 0
                sheet 2 1 2 1 = 1
                part 2 1 5 false = 0
                run = 2
                cut 0 0 = 0
                cut 1 0 = 1
                left 0 = 3
                """);
        Edge.test("Until nothing more is TAKEN from any: one that does not fit comes first", """
                new 0 1 1
                sheet 1 1 1 20 = 0
                sheet 2 1 10000 1 = 1
                part 2 1 5 false = 0
                run = 1
                cut 0 0 = 1
                """);
    }

    private static void mostForItsCents() {
        Edge.test("Most for its CENTS, not most", """
                new 0 1 1
                sheet 4 4 9 1 = 0
                sheet 2 2 2 1 = 1
                part 4 4 1 false = 0
                part 2 2 1 false = 1
                run = 2
                cut 0 0 = 1
                cut 1 0 = 0
                """);
        Edge.test("What is TAKEN, not the VALUE", """
                new 0 1 1
                sheet 4 1 2 1 = 0
                sheet 1 1 1 1 = 1
                part 1 1 1 false = 0
                run = 1
                cut 0 0 = 1
                """);
        Edge.test("What is TAKEN changes from sheet to sheet", """
                new 0 1 1
                sheet 4 1 3 2 = 0
                sheet 1 1 1 1 = 1
                part 1 1 5 false = 0
                run = 2
                cut 0 0 = 0
                cut 1 0 = 1
                """);
        Edge.test("Of several the least", """
                new 0 1 1
                sheet 1 1 7 1 = 0
                sheet 1 1 7 1 = 1
                sheet 1 1 7 1 = 2
                sheet 1 1 7 1 = 3
                part 1 1 50 false = 0
                run = 4
                cut 0 0 = 0
                cut 1 0 = 1
                cut 2 0 = 2
                cut 3 0 = 3
                """);
        Edge.test("Of several the least, not the cheapest nor the largest", """
                new 0 1 1
                sheet 2 1 2 1 = 0
                sheet 1 1 1 1 = 1
                sheet 3 1 3 1 = 2
                part 1 1 50 false = 0
                run = 3
                cut 0 0 = 0
                cut 1 0 = 1
                cut 2 0 = 2
                """);
        Edge.test("The last is the best", """
                new 0 1 1
                sheet 1 1 4 1 = 0
                sheet 1 1 3 1 = 1
                sheet 1 1 2 1 = 2
                sheet 1 1 1 1 = 3
                part 1 1 50 false = 0
                run = 4
                cut 0 0 = 3
                cut 1 0 = 2
                cut 2 0 = 1
                cut 3 0 = 0
                """);
    }

    private static void fractions() {
        Edge.test("As a fraction: both below 1", """
                new 0 1 1
                sheet 1 1 2 1 = 0
                sheet 2 1 3 1 = 1
                part 1 1 3 false = 0
                run = 2
                cut 0 0 = 1
                cut 1 0 = 0
                """);
        Edge.test("As a fraction: both between 1 and 2", """
                new 0 1 1
                sheet 4 1 3 1 = 0
                sheet 3 1 2 1 = 1
                part 1 1 7 false = 0
                run = 2
                cut 0 0 = 1
                cut 1 0 = 0
                """);
        // 256 by 10000 is just 240 by 9375.
        String largest = """
                new 0 1 1
                part 16 16 1 false = 0
                part 15 16 1 false = 1
                sheet 16 16 10000 1 = 0
                """;
        Edge.test("As a fraction: just as much for more cents", largest + """
                sheet 15 16 9375 1 = 1
                run = 2
                cut 0 0 = 0
                """);
        Edge.test("As a fraction: 1 cent less is more", largest + """
                sheet 15 16 9374 1 = 1
                run = 2
                cut 0 0 = 1
                """);
        Edge.test("As a fraction: 1 cent more is less", largest + """
                sheet 15 16 9376 1 = 1
                run = 2
                cut 0 0 = 0
                """);
        Edge.test("As a fraction: just as much for fewer cents", """
                new 0 1 1
                part 16 16 1 false = 0
                part 15 16 1 false = 1
                sheet 15 16 9375 1 = 0
                sheet 16 16 10000 1 = 1
                run = 2
                cut 0 0 = 0
                cut 0 2 = 240
                """);
        Edge.test("As a fraction: the most for 1 cent", """
                new 0 1 1
                part 16 16 2 false = 0
                sheet 16 16 2 1 = 0
                sheet 16 16 1 1 = 1
                run = 2
                cut 0 0 = 1
                cut 0 2 = 256
                """);
    }

    private static void asTold() {
        Edge.test("A RUN again is the same", STRIP + STRIP_STANDS + "run = 1\n" + STRIP_STANDS);
        Edge.test("COUNTS are as they were told, not what is left", STRIP + """
                left 0 = 1
                count 0 3 = 3
                run = 1
                left 0 = 1
                """);
        Edge.test("STOCKS are as they were told, not what is left", """
                new 0 1 1
                sheet 1 1 1 2 = 0
                part 1 1 50 false = 0
                run = 2
                run = 2
                count 0 49 = 50
                run = 2
                left 0 = 47
                """);
        Edge.test("Nothing is cut: sheets of the RUN before are gone", """
                new 0 1 1
                sheet 3 1 1 20 = 0
                part 2 1 3 false = 0
                run = 3
                count 0 1 = 3
                run = 1
                all * = 1 3 2
                cut 0 * = 0 1 2 1 0 1 1 0
                cut 1 0 ! IndexOutOfBounds
                taken 1 0 0 ! IndexOutOfBounds
                rest 1 0 0 ! IndexOutOfBounds
                count 0 0 = 1
                run = 0
                all * = 0 0 0
                cut 0 0 ! IndexOutOfBounds
                taken 0 0 0 ! IndexOutOfBounds
                rest 0 0 0 ! IndexOutOfBounds
                left 0 = 0
                """);
        Edge.test("Nothing is cut: rests and parts of RUNS before take no room", """
                new 0 2 1
                sheet 15 15 1 20 = 0
                part 8 8 50 false = 0
                """ + "run = 20\n".repeat(490) + """
                cut 19 6 = 2
                rest 19 1 * = 8 0 7 15
                taken 19 0 * = 0 0 7 8 8
                left 0 = 30
                """);
        Edge.test("A SHEET told later is cut by the next RUN", STRIP + """
                sheet 4 3 1 1 = 1
                run = 2
                cut 0 0 = 1
                cut 1 0 = 0
                left 0 = 0
                """);
        Edge.test("A PART told later is taken by the next RUN", STRIP + """
                part 10 6 1 false = 1
                run = 1
                taken 0 0 * = 1 0 0 10 6
                left * = 3 0
                """);
        Edge.test("A COUNT told later is wanted by the next RUN", """
                new 0 1 1
                sheet 3 3 1 20 = 0
                part 3 3 0 false = 0
                run = 0
                count 0 50 = 0
                run = 20
                left 0 = 30
                """);
    }

    private static void everythingFull() {
        Edge.test("Four SHEETS, each cut", """
                new 0 1 1
                sheet 1 1 1 1 = 0
                sheet 2 1 1 1 = 1
                sheet 3 1 1 1 = 2
                sheet 4 1 1 1 = 3
                part 4 1 1 false = 0
                part 3 1 1 false = 1
                part 2 1 1 false = 2
                part 1 1 1 false = 3
                run = 4
                cut 0 0 = 3
                cut 1 0 = 2
                cut 2 0 = 1
                cut 3 0 = 0
                left * = 0 0 0 0
                all * = 4 10 10
                """);
        Edge.test("Eight PARTS as large: the first fills the TREE", """
                new 0 1 1
                sheet 16 1 1 1 = 0
                part 2 1 1 false = 0
                part 2 1 1 false = 1
                part 2 1 1 false = 2
                part 2 1 1 false = 3
                part 2 1 1 false = 4
                part 2 1 1 false = 5
                part 2 1 1 false = 6
                part 2 1 1 false = 7
                run = 1
                cut 0 * = 0 1 2 7 0 7 0 0
                left * = 0 1 1 1 1 1 1 1
                """);
        Edge.test("Several PARTS fill a sheet, the smallest first", """
                new 0 1 1
                sheet 16 8 1 1 = 0
                part 9 8 1 false = 0
                part 1 8 1 false = 1
                part 6 8 1 false = 2
                run = 1
                cut 0 * = 0 3 128 2 0 16 0 0
                taken 0 0 * = 1 0 0 1 8
                taken 0 1 * = 2 1 0 6 8
                taken 0 2 * = 0 7 0 9 8
                """);
        String ones = """
                part 1 1 50 false = 0
                part 1 1 50 false = 1
                part 1 1 50 false = 2
                part 1 1 50 false = 3
                part 1 1 50 false = 4
                part 1 1 50 false = 5
                part 1 1 50 false = 6
                part 1 1 50 false = 7
                """;
        Edge.test("All 400 copies that can be told are taken", "new 0 2 1\nsheet 16 16 1 20 = 0\n" + ones + """
                run = 8
                left * = 0 0 0 0 0 0 0 0
                all * = 8 2048 400
                cut 7 * = 0 50 50 240 0 465 1 7
                taken 7 0 * = 7 0 0 1 1
                taken 7 49 * = 7 3 1 1 1
                taken 7 50 0 ! IndexOutOfBounds
                """);
        Edge.test("Twenty cut sheets with two rests each", """
                new 0 2 1
                sheet 15 15 1 20 = 0
                part 8 8 20 false = 0
                run = 20
                cut 19 * = 0 1 64 2 0 23 2 0
                rest 0 1 * = 8 0 7 15
                rest 0 2 0 ! IndexOutOfBounds
                rest 19 0 * = 0 0 8 7
                rest 19 1 * = 8 0 7 15
                rest 19 2 0 ! IndexOutOfBounds
                taken 19 0 * = 0 0 7 8 8
                all * = 20 4500 1280
                """);
    }

    private static void beforeARun() {
        Edge.test("Asked before anything was told", "new 0 1 1\n" + NOTHING_RUN);
        Edge.test("Asked before a RUN", TELL_STRIP + NOTHING_RUN + "run = 1\n" + STRIP_STANDS);
        Edge.test("Asked after a RUN of nothing", """
                new 0 1 1
                run = 0
                cut 0 0 ! IndexOutOfBounds
                taken 0 0 0 ! IndexOutOfBounds
                rest 0 0 0 ! IndexOutOfBounds
                left 0 ! IndexOutOfBounds
                all 0 = 0
                """);
    }

    private static void toldSince() {
        Edge.test("A SHEET was told since", STRIP + "sheet 1 1 1 0 = 1\n" + NOTHING_RUN + "run = 1\n" + STRIP_STANDS);
        Edge.test("A PART was told since", STRIP + "part 1 1 0 true = 1\n" + NOTHING_RUN + "run = 1\n" + STRIP_STANDS);
        Edge.test("A COUNT was told since", STRIP + "count 0 2 = 3\n" + NOTHING_RUN + "run = 1\nleft 0 = 0\n");
        Edge.test("The same COUNT was told since",
                STRIP + "count 0 3 = 3\n" + NOTHING_RUN + "run = 1\n" + STRIP_STANDS);
        Edge.test("Told since, and a wrong number: that nothing was run is named first", STRIP + """
                count 0 3 = 3
                cut 1 8 ! IllegalState
                taken 0 2 5 ! IllegalState
                rest 0 1 4 ! IllegalState
                left 1 ! IllegalState
                all 3 ! IllegalState
                """);
        Edge.test("Told after a RUN of nothing", "new 0 1 1\nrun = 0\nall 0 = 0\nsheet 1 1 1 1 = 0\n" + NOTHING_RUN);
    }

    private static void nothingToldSince() {
        Edge.test("worth() tells nothing", STRIP + "worth 16 16 0 3 = 144\nworth 1 1 1 0 = 0\n" + STRIP_STANDS);
        Edge.test("bound() tells nothing", STRIP + "bound = 1\n" + STRIP_STANDS);
        Edge.test("Questions tell nothing", STRIP + STRIP_STANDS + STRIP_STANDS);
    }

    private static void refusedTelling() {
        Edge.test("A refused sheet() changes nothing", STRIP + """
                sheet 0 1 1 1 ! IllegalArgument
                sheet 17 16 1 20 ! IllegalArgument
                sheet 16 0 1 20 ! IllegalArgument
                sheet 16 17 1 20 ! IllegalArgument
                sheet 16 16 0 20 ! IllegalArgument
                sheet 16 16 10001 20 ! IllegalArgument
                sheet 16 16 1 -1 ! IllegalArgument
                sheet 16 16 1 21 ! IllegalArgument
                """ + STRIP_STANDS + STRIP_TOLD + NEXT_ARE_1);
        Edge.test("A refused part() changes nothing", STRIP + """
                part 0 1 1 true ! IllegalArgument
                part 17 1 1 true ! IllegalArgument
                part 1 0 1 true ! IllegalArgument
                part 1 17 1 true ! IllegalArgument
                part 1 1 -1 true ! IllegalArgument
                part 1 1 51 true ! IllegalArgument
                """ + STRIP_STANDS + STRIP_TOLD + NEXT_ARE_1);
        Edge.test("A count() refused for its part changes nothing", STRIP + """
                count -1 0 ! IndexOutOfBounds
                count 1 0 ! IndexOutOfBounds
                count 7 0 ! IndexOutOfBounds
                """ + STRIP_STANDS + STRIP_TOLD + "count 0 3 = 3\n" + NEXT_ARE_1);
        Edge.test("A count() refused for its count changes nothing", STRIP + """
                count 0 -1 ! IllegalArgument
                count 0 51 ! IllegalArgument
                """ + STRIP_STANDS + STRIP_TOLD + "count 0 3 = 3\n");
        Edge.test("A refused worth() changes nothing", STRIP + """
                worth 0 1 0 0 ! IllegalArgument
                worth 1 17 0 0 ! IllegalArgument
                worth 1 1 2 0 ! IllegalArgument
                worth 1 1 0 4 ! IllegalArgument
                """ + STRIP_STANDS + STRIP_TOLD);
        Edge.test("Refused before anything was told, the numbers begin with 0", """
                new 0 1 1
                sheet 0 1 1 1 ! IllegalArgument
                part 0 1 1 true ! IllegalArgument
                count 0 1 ! IndexOutOfBounds
                bound = 0
                run = 0
                left 0 ! IndexOutOfBounds
                sheet 1 1 1 1 = 0
                part 1 1 1 true = 0
                run = 1
                """);
    }

    private static void refusedForRoom() {
        Edge.test("A sheet() without room changes nothing", TELL_STRIP + """
                sheet 1 1 1 0 = 1
                sheet 1 1 1 0 = 2
                sheet 1 1 1 0 = 3
                run = 1
                sheet 16 16 1 20 ! IllegalState
                sheet 0 16 1 20 ! IllegalArgument
                """ + STRIP_STANDS + STRIP_TOLD);
        Edge.test("A part() without room changes nothing", TELL_STRIP + """
                part 1 1 0 false = 1
                part 1 1 0 false = 2
                part 1 1 0 false = 3
                part 1 1 0 false = 4
                part 1 1 0 false = 5
                part 1 1 0 false = 6
                part 1 1 0 false = 7
                run = 1
                part 1 1 50 true ! IllegalState
                part 0 1 50 true ! IllegalArgument
                """ + STRIP_STANDS + STRIP_TOLD + "left 8 ! IndexOutOfBounds\n");
    }

    private static void refusedQuestions() {
        Edge.test("Questions refused before a RUN change nothing",
                TELL_STRIP + NOTHING_RUN + NOTHING_RUN + STRIP_TOLD + NEXT_ARE_1);
        Edge.test("Questions refused after a RUN change nothing", STRIP + """
                cut 1 0 ! IndexOutOfBounds
                cut 0 8 ! IndexOutOfBounds
                taken 1 0 0 ! IndexOutOfBounds
                taken 0 2 0 ! IndexOutOfBounds
                taken 0 0 5 ! IndexOutOfBounds
                rest 1 0 0 ! IndexOutOfBounds
                rest 0 1 0 ! IndexOutOfBounds
                rest 0 0 4 ! IndexOutOfBounds
                left 1 ! IndexOutOfBounds
                all 3 ! IndexOutOfBounds
                """ + STRIP_STANDS + STRIP_TOLD + NEXT_ARE_1);
    }

    private static void lastCall() {
        // 15 calls, 494 RUNS, and 3 questions.
        String run = """
                new 0 3 1
                sheet 16 16 9 20 = 0
                sheet 16 15 8 20 = 1
                sheet 15 16 7 20 = 2
                sheet 15 15 6 20 = 3
                part 16 16 3 false = 0
                part 16 15 3 false = 1
                part 15 16 3 false = 2
                part 15 15 3 false = 3
                part 1 1 0 false = 4
                part 1 1 0 false = 5
                part 1 1 0 false = 6
                part 1 1 0 false = 7
                count 4 0 = 0
                bound = 12
                worth 16 16 0 3 = 256
                """ + "run = 12\n".repeat(494) + "all * = 90 2883 2883\n";
        Edge.test("The 512th call", run);
    }
}
