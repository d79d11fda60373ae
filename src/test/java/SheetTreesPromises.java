/** For each promise of the document: ordinary calls, and wrong ones. */
public final class SheetTreesPromises {
    private static final int LOWEST = Integer.MIN_VALUE;
    private static final int HIGHEST = Integer.MAX_VALUE;
    private static final String ARGUMENT = "throws.IllegalArgumentException";
    private static final String STATE = "throws.IllegalStateException";
    private static final String INDEX = "throws.IndexOutOfBoundsException";

    private static int asked = 0;
    private static int wrong = 0;

    public static void main(String[] args) {
        due("NONE", () -> SheetTrees.NONE, -1);
        promise1Kerf();
        promise1Stages();
        promise1Least();
        promise2Sheet();
        promise3Part();
        promise4Count();
        promise5Worth();
        promise5WorthAndCounts();
        promise6Run();
        promise6RunByCents();
        promise7Cut();
        promise7Alike();
        promise7BestTrees();
        promise8Taken();
        promise9Rest();
        promise10Left();
        promise11All();
        promise12Bound();
        toldAfterRun();
        throwingChangesNothing();
        mostTaken();
        manyCalls();
        exampleOfReadme();
        System.out.println(asked + " answers, " + wrong + " wrong");
        if (wrong != 0) {
            System.exit(1);
        }
    }

    private static void promise1Kerf() {
        int[] told = {LOWEST, -1, 0, 1, 2, 3, 4, HIGHEST};
        int[] ones = {7, 7, 7, 4, 3, 2, 2, 2};
        for (int i = 0; i < told.length; i++) {
            SheetTrees x = new SheetTrees(told[i], 1, 1);
            x.part(1, 1, 1, false);
            due("kerf " + told[i] + " worth", () -> x.worth(7, 1, 0, 1), ones[i]);
        }
    }

    private static void promise1Stages() {
        int[] told = {LOWEST, 0, 1, 2, 3, 4, HIGHEST};
        // One stage gives neither part, two only 4 by 2 (twice, one of it taken), three give both.
        int[] area = {0, 0, 0, 8, 17, 17, 17};
        for (int i = 0; i < told.length; i++) {
            SheetTrees x = new SheetTrees(0, told[i], 1);
            x.sheet(5, 5, 1, 1);
            x.part(3, 3, 1, false);
            x.part(4, 2, 1, false);
            x.run();
            due("stages " + told[i] + " all", () -> x.all(2), area[i]);
        }
    }

    private static void promise1Least() {
        int[] told = {LOWEST, 0, 1, 2, 7, 8, 16, 17, HIGHEST};
        int[] small = {1, 1, 1, 0, 0, 0, 0, 0, 0};
        int[] large = {1, 1, 1, 1, 1, 0, 0, 0, 0};
        for (int i = 0; i < told.length; i++) {
            SheetTrees x = new SheetTrees(0, 1, told[i]);
            x.sheet(3, 1, 1, 1);
            x.sheet(16, 16, 1000, 1);
            x.part(2, 1, 1, false);
            x.part(9, 16, 1, false);
            x.run();
            due("least " + told[i] + " rest of 1 by 1", () -> x.cut(0, 6), small[i]);
            due("least " + told[i] + " rest of 7 by 16", () -> x.cut(1, 6), large[i]);
        }
    }

    private static void promise2Sheet() {
        SheetTrees x = new SheetTrees(0, 1, 1);
        int[][] bad = {{0, 1, 1, 1}, {17, 1, 1, 1}, {1, 0, 1, 1}, {1, 17, 1, 1}, {1, 1, 0, 1}, {1, 1, 10001, 1},
            {1, 1, 1, -1}, {1, 1, 1, 21}, {LOWEST, 1, 1, 1}, {1, HIGHEST, 1, 1}, {1, 1, LOWEST, 1}, {1, 1, 1, HIGHEST}};
        for (int[] b : bad) {
            due("sheet, wrong", () -> x.sheet(b[0], b[1], b[2], b[3]), ARGUMENT);
        }
        due("sheet 0", () -> x.sheet(1, 16, 1, 20), 0);
        due("sheet 1", () -> x.sheet(16, 1, 10000, 0), 1);
        due("sheet 2", () -> x.sheet(8, 8, 5, 1), 2);
        due("sheet 3", () -> x.sheet(8, 8, 5, 1), 3);
        due("sheet 4", () -> x.sheet(8, 8, 5, 1), STATE);
        for (int[] b : bad) {
            due("sheet, wrong and no room", () -> x.sheet(b[0], b[1], b[2], b[3]), ARGUMENT);
        }
        x.part(1, 1, 50, false);
        due("a sheet's stock, cents and sides", x::run, 4);
        due("all(0)", () -> x.all(0), 4);
        due("all(1)", () -> x.all(1), 64);
    }

    private static void promise3Part() {
        SheetTrees x = new SheetTrees(0, 1, 1);
        int[][] bad = {{0, 1, 1}, {17, 1, 1}, {1, 0, 1}, {1, 17, 1}, {1, 1, -1}, {1, 1, 51},
            {LOWEST, 1, 1}, {1, HIGHEST, 1}, {1, 1, LOWEST}};
        for (int[] b : bad) {
            due("part, wrong", () -> x.part(b[0], b[1], b[2], true), ARGUMENT);
        }
        for (int i = 0; i < 8; i++) {
            int number = i;
            due("part " + i, () -> x.part(1 + number, 16 - number, number * 7, number % 2 == 0), number);
        }
        due("part 8", () -> x.part(1, 1, 1, true), STATE);
        for (int[] b : bad) {
            due("part, wrong and no room", () -> x.part(b[0], b[1], b[2], true), ARGUMENT);
        }
        due("count 0: not wanted", () -> x.worth(1, 16, 0, 0), 0);
        due("as it lies", () -> x.worth(2, 15, 0, 0), 30);
        due("turned, but it does not turn", () -> x.worth(15, 2, 0, 0), 0);
        due("turned", () -> x.worth(14, 3, 0, 0), 42);
        SheetTrees y = new SheetTrees(0, 1, 1);
        due("count 50, side 16", () -> y.part(16, 16, 50, false), 0);
        due("side 1", () -> y.part(1, 1, 0, false), 1);
    }

    private static void promise4Count() {
        SheetTrees x = new SheetTrees(0, 1, 1);
        due("count without parts", () -> x.count(0, 1), INDEX);
        x.part(2, 2, 3, false);
        x.part(3, 3, 4, false);
        due("count(0)", () -> x.count(0, 50), 3);
        due("count(0) again", () -> x.count(0, 0), 50);
        due("count(1)", () -> x.count(1, 9), 4);
        due("wrong part", () -> x.count(2, 1), INDEX);
        due("wrong part", () -> x.count(-1, 1), INDEX);
        due("wrong part", () -> x.count(LOWEST, 1), INDEX);
        due("wrong part and count", () -> x.count(2, 51), INDEX);
        due("wrong count", () -> x.count(0, 51), ARGUMENT);
        due("wrong count", () -> x.count(0, -1), ARGUMENT);
        due("nothing was changed", () -> x.count(0, 1), 0);
    }

    private static void promise5Worth() {
        SheetTrees x = new SheetTrees(1, 1, 1);
        due("without parts", () -> x.worth(16, 16, 0, 3), 0);
        x.part(4, 3, 3, false);
        x.part(6, 2, 2, true);
        due("0 stages, no part", () -> x.worth(10, 6, 0, 0), 0);
        due("three 2 by 6", () -> x.worth(10, 6, 0, 1), 36);
        due("stages beyond the object's", () -> x.worth(10, 6, 0, 3), 36);
        due("way 1, one stage", () -> x.worth(10, 6, 1, 1), 0);
        due("way 1, two stages", () -> x.worth(10, 6, 1, 2), 24);
        due("just a part", () -> x.worth(4, 3, 1, 0), 12);
        due("the second piece is lost to the kerf", () -> x.worth(5, 3, 0, 1), 12);
        due("turned", () -> x.worth(2, 6, 0, 0), 12);
        int[][] bad = {{0, 1, 0, 0}, {17, 1, 0, 0}, {1, 0, 0, 0}, {1, 17, 0, 0}, {1, 1, -1, 0}, {1, 1, 2, 0},
            {1, 1, 0, -1}, {1, 1, 0, 4}, {HIGHEST, 1, 0, 0}, {1, LOWEST, 0, 0}, {1, 1, HIGHEST, 0}, {1, 1, 0, LOWEST}};
        for (int[] b : bad) {
            due("worth, wrong", () -> x.worth(b[0], b[1], b[2], b[3]), ARGUMENT);
        }
    }

    private static void promise5WorthAndCounts() {
        SheetTrees x = new SheetTrees(0, 1, 1);
        x.sheet(2, 1, 1, 1);
        x.part(1, 1, 1, false);
        due("one copy wanted counts as often as it fits", () -> x.worth(16, 1, 0, 1), 16);
        x.run();
        due("all taken", () -> x.left(0), 0);
        due("a run changes no worth", () -> x.worth(16, 1, 0, 1), 16);
        due("a worth changes no run", () -> x.left(0), 0);
        x.count(0, 0);
        due("count 0", () -> x.worth(16, 1, 0, 1), 0);
        x.part(3, 1, 2, false);
        due("another part", () -> x.worth(16, 1, 0, 1), 15);
        due("one way needs one stage", () -> x.worth(3, 2, 1, 1), 6);
        due("two ways need two stages", () -> x.worth(4, 2, 1, 1), 0);
        due("the last piece keeps its way", () -> x.worth(4, 2, 1, 2), 3);
    }

    private static void promise6Run() {
        SheetTrees x = new SheetTrees(0, 1, 1);
        due("nothing told", x::run, 0);
        x.sheet(1, 1, 1, 20);
        due("no part", x::run, 0);
        x.part(1, 1, 50, false);
        due("all of the stock", x::run, 20);
        due("the same again", x::run, 20);
        x.sheet(1, 1, 1, 20);
        due("20 at most", x::run, 20);
        due("copies left", () -> x.left(0), 30);
        x.count(0, 3);
        due("until nothing more is taken", x::run, 3);
        x.count(0, 0);
        due("nothing wanted", x::run, 0);
        SheetTrees y = new SheetTrees(0, 1, 1);
        y.sheet(4, 4, 1, 0);
        y.part(4, 4, 2, false);
        due("no stock", y::run, 0);
        y.sheet(4, 4, 1, 1);
        due("a stock of 1", y::run, 1);
        due("the sheet with stock", () -> y.cut(0, 0), 1);
        due("what is left", () -> y.left(0), 1);
    }

    private static void promise6RunByCents() {
        SheetTrees x = new SheetTrees(0, 2, 1);
        x.sheet(4, 4, 3, 9);
        x.sheet(2, 2, 2, 9);
        x.part(2, 2, 5, false);
        due("8 for 3 twice before 4 for 2, then 4 for 2 before 4 for 3", x::run, 3);
        due("first", () -> x.cut(0, 0), 0);
        due("second", () -> x.cut(1, 0), 0);
        due("last: by what is taken, not by the value", () -> x.cut(2, 0), 1);
        SheetTrees y = new SheetTrees(0, 1, 1);
        y.sheet(3, 1, 9999, 1);
        y.sheet(3, 1, 10000, 1);
        y.sheet(1, 1, 3333, 1);
        y.part(1, 1, 50, false);
        due("fractions", y::run, 3);
        due("of two as good the least", () -> y.cut(0, 0), 0);
        due("then the other", () -> y.cut(1, 0), 2);
        due("then the least good", () -> y.cut(2, 0), 1);
    }

    /** 10 by 6 with a kerf of 1: a strip 10 by 3 with two 4 by 3, and below it waste of 10 by 2. */
    private static SheetTrees strip() {
        SheetTrees x = new SheetTrees(1, 2, 2);
        x.sheet(10, 6, 100, 1);
        x.part(4, 3, 3, false);
        x.run();
        return x;
    }

    private static void promise7Cut() {
        SheetTrees x = strip();
        int[] due = {0, 2, 24, 3, 1, 16, 1, 0};
        for (int i = 0; i < due.length; i++) {
            int what = i;
            due("cut(0, " + what + ")", () -> x.cut(0, what), due[what]);
        }
        due("wrong what", () -> x.cut(0, 8), INDEX);
        due("wrong what", () -> x.cut(0, -1), INDEX);
        due("wrong cut sheet", () -> x.cut(1, 0), INDEX);
        due("wrong cut sheet", () -> x.cut(-1, 0), INDEX);
        due("wrong cut sheet", () -> x.cut(HIGHEST, LOWEST), INDEX);
        SheetTrees y = new SheetTrees(0, 1, 1);
        due("not run", () -> y.cut(0, 0), STATE);
        due("not run, and wrong", () -> y.cut(-1, 9), STATE);
        y.run();
        due("run without a cut sheet", () -> y.cut(0, 0), INDEX);
    }

    private static void promise7Alike() {
        SheetTrees x = new SheetTrees(0, 1, 1);
        x.sheet(4, 2, 1, 2);
        x.sheet(4, 2, 1, 3);
        x.part(2, 2, 5, false);
        x.part(1, 2, 7, false);
        due("run", x::run, 5);
        due("0 as itself", () -> x.cut(0, 7), 0);
        due("1 as 0", () -> x.cut(1, 7), 0);
        due("2 is another sheet", () -> x.cut(2, 7), 2);
        due("one part of it is taken", () -> x.cut(2, 1), 1);
        due("3 has another tree", () -> x.cut(3, 7), 3);
        due("4 has that tree, though less is taken", () -> x.cut(4, 7), 3);
        due("less is taken", () -> x.cut(4, 1), 3);
        SheetTrees y = new SheetTrees(0, 1, 1);
        y.sheet(3, 3, 1, 3);
        y.sheet(2, 2, 1, 1);
        y.part(3, 3, 3, false);
        y.part(2, 2, 1, false);
        y.count(0, 2);
        due("run", y::run, 3);
        due("alike", () -> y.cut(1, 7), 0);
        due("alone", () -> y.cut(2, 7), 2);
        SheetTrees z = new SheetTrees(0, 1, 1);
        z.sheet(2, 2, 2, 2);
        z.sheet(3, 3, 3, 1);
        z.part(2, 2, 2, false);
        z.part(3, 3, 1, false);
        due("run", z::run, 3);
        due("first 9 for 3", () -> z.cut(0, 0), 1);
        due("a part that it does not hold ceased to be wanted", () -> z.cut(2, 7), 1);
    }

    private static void promise7BestTrees() {
        SheetTrees x = new SheetTrees(0, 3, 1);
        x.sheet(4, 4, 1, 20);
        x.part(2, 2, 4, false);
        x.part(2, 4, 0, true);
        x.run();
        due("way 0 of two as good", () -> x.cut(0, 4), 0);
        due("two cuts: the second piece keeps its way", () -> x.cut(0, 3), 2);
        due("4 + 2 long", () -> x.cut(0, 5), 6);
        x.count(1, 2);
        x.run();
        due("fewest cuts", () -> x.cut(0, 3), 1);
        due("the larger part", () -> x.taken(0, 0, 0), 1);
        x.part(4, 4, 1, false);
        x.part(4, 4, 1, false);
        x.run();
        due("no cut", () -> x.cut(0, 3), 0);
        due("the first of two parts", () -> x.taken(0, 0, 0), 2);
        due("no minutes", () -> x.cut(0, 5), 0);
        due("way 0 without cuts", () -> x.cut(0, 4), 0);
        SheetTrees y = new SheetTrees(0, 1, 1);
        y.sheet(7, 1, 1, 1);
        y.part(5, 1, 1, false);
        y.run();
        due("the first c: waste comes first", () -> y.taken(0, 0, 1), 2);
        due("with one cut", () -> y.cut(0, 3), 1);
    }

    private static void promise8Taken() {
        SheetTrees x = strip();
        int[][] due = {{0, 0, 0, 4, 3}, {0, 5, 0, 4, 3}};
        for (int i = 0; i < 2; i++) {
            for (int j = 0; j < 5; j++) {
                int k = i;
                int what = j;
                due("taken(0, " + k + ", " + what + ")", () -> x.taken(0, k, what), due[k][what]);
            }
        }
        due("wrong k", () -> x.taken(0, 2, 0), INDEX);
        due("wrong k", () -> x.taken(0, -1, 0), INDEX);
        due("wrong k", () -> x.taken(0, HIGHEST, 0), INDEX);
        due("wrong what", () -> x.taken(0, 0, 5), INDEX);
        due("wrong what", () -> x.taken(0, 0, -1), INDEX);
        due("wrong cut sheet", () -> x.taken(1, 0, 0), INDEX);
        due("wrong cut sheet", () -> x.taken(-1, 0, 0), INDEX);
        due("not run, and wrong", () -> new SheetTrees(0, 1, 1).taken(-1, 0, 0), STATE);
        SheetTrees y = new SheetTrees(1, 1, 1);
        y.sheet(2, 7, 1, 2);
        y.part(3, 2, 3, true);
        due("run", y::run, 2);
        due("turned, x", () -> y.taken(0, 1, 1), 0);
        due("turned, y behind the kerf", () -> y.taken(0, 1, 2), 4);
        due("turned, width", () -> y.taken(0, 1, 3), 2);
        due("turned, height", () -> y.taken(0, 1, 4), 3);
        due("of the second sheet", () -> y.taken(1, 0, 2), 0);
        due("no copy wanted", () -> y.taken(1, 1, 0), INDEX);
    }

    private static void promise9Rest() {
        SheetTrees x = strip();
        int[] due = {0, 4, 10, 2};
        for (int i = 0; i < 4; i++) {
            int what = i;
            due("rest(0, 0, " + what + ")", () -> x.rest(0, 0, what), due[what]);
        }
        due("wrong k", () -> x.rest(0, 1, 0), INDEX);
        due("wrong k", () -> x.rest(0, -1, 0), INDEX);
        due("wrong what", () -> x.rest(0, 0, 4), INDEX);
        due("wrong what", () -> x.rest(0, 0, -1), INDEX);
        due("wrong cut sheet", () -> x.rest(1, 0, 0), INDEX);
        due("wrong cut sheet", () -> x.rest(LOWEST, 0, 0), INDEX);
        due("not run, and wrong", () -> new SheetTrees(0, 1, 1).rest(0, -1, 0), STATE);
        SheetTrees y = new SheetTrees(0, 2, 1);
        y.sheet(3, 3, 1, 2);
        y.part(2, 2, 1, false);
        due("run", y::run, 1);
        due("two rests", () -> y.cut(0, 6), 2);
        int[][] rests = {{0, 0, 2, 1}, {2, 0, 1, 3}};
        for (int i = 0; i < 2; i++) {
            for (int j = 0; j < 4; j++) {
                int k = i;
                int what = j;
                due("rest(0, " + k + ", " + what + ")", () -> y.rest(0, k, what), rests[k][what]);
            }
        }
        SheetTrees z = new SheetTrees(0, 1, 1);
        z.sheet(4, 2, 1, 1);
        z.part(2, 2, 1, false);
        z.run();
        due("a part not taken is no rest", () -> z.cut(0, 6), 0);
        due("one part taken", () -> z.cut(0, 1), 1);
    }

    private static void promise10Left() {
        SheetTrees x = strip();
        x.part(1, 1, 5, false);
        due("not run since", () -> x.left(0), STATE);
        due("not run since, and wrong", () -> x.left(9), STATE);
        x.count(1, 0);
        x.run();
        due("left(0)", () -> x.left(0), 1);
        due("left(1)", () -> x.left(1), 0);
        due("wrong part", () -> x.left(2), INDEX);
        due("wrong part", () -> x.left(-1), INDEX);
        x.count(0, 2);
        x.run();
        due("counts are as told", () -> x.left(0), 0);
    }

    private static void promise11All() {
        SheetTrees x = new SheetTrees(0, 1, 1);
        due("not run", () -> x.all(0), STATE);
        due("not run, and wrong", () -> x.all(3), STATE);
        x.run();
        due("nothing cut", () -> x.all(0), 0);
        x.sheet(3, 1, 10000, 20);
        x.sheet(2, 1, 9000, 1);
        x.part(2, 1, 3, false);
        due("run", x::run, 3);
        due("cents", () -> x.all(0), 29000);
        due("area", () -> x.all(1), 8);
        due("area taken", () -> x.all(2), 6);
        due("wrong what", () -> x.all(3), INDEX);
        due("wrong what", () -> x.all(-1), INDEX);
    }

    private static void promise12Bound() {
        SheetTrees x = new SheetTrees(3, 1, 1);
        due("nothing told", x::bound, 0);
        x.part(3, 3, 2, false);
        due("no sheet", x::bound, 0);
        x.sheet(2, 2, 1, 1);
        due("18 by 4", x::bound, 5);
        x.sheet(3, 3, 1, 0);
        due("18 by 9: the largest, without stock", x::bound, 2);
        x.sheet(1, 1, 1, 0);
        due("the largest, not the last", x::bound, 2);
        x.part(1, 1, 1, false);
        due("19 by 9", x::bound, 3);
        x.count(0, 0);
        due("1 by 9", x::bound, 1);
        x.count(1, 0);
        due("0 by 9", x::bound, 0);
        SheetTrees y = new SheetTrees(0, 1, 1);
        y.sheet(1, 1, 1, 1);
        for (int p = 0; p < 8; p++) {
            y.part(16, 16, 50, false);
        }
        due("the most", y::bound, 102400);
    }

    private static void toldAfterRun() {
        SheetTrees x = strip();
        x.count(0, 3);
        allThrow(x, STATE, "the same count told");
        x.run();
        x.part(1, 1, 0, false);
        allThrow(x, STATE, "a part told");
        x.run();
        x.sheet(1, 1, 1, 0);
        allThrow(x, STATE, "a sheet told");
        x.run();
        x.worth(5, 5, 0, 3);
        x.bound();
        due("neither worth nor bound tells", () -> x.cut(0, 1), 2);
        due("nor do they move rests", () -> x.rest(0, 0, 1), 4);
    }

    private static void allThrow(SheetTrees x, String due, String why) {
        due(why + ", cut", () -> x.cut(0, 0), due);
        due(why + ", taken", () -> x.taken(0, 0, 0), due);
        due(why + ", rest", () -> x.rest(0, 0, 0), due);
        due(why + ", left", () -> x.left(0), due);
        due(why + ", all", () -> x.all(0), due);
    }

    private static void throwingChangesNothing() {
        SheetTrees x = strip();
        due("sheet", () -> x.sheet(1, 1, 1, 21), ARGUMENT);
        due("part", () -> x.part(1, 1, 51, true), ARGUMENT);
        due("count", () -> x.count(1, 1), INDEX);
        due("count", () -> x.count(0, 51), ARGUMENT);
        due("worth", () -> x.worth(1, 1, 0, 4), ARGUMENT);
        due("the run still stands", () -> x.cut(0, 2), 24);
        due("next sheet", () -> x.sheet(1, 1, 1, 1), 1);
        due("next part", () -> x.part(1, 1, 1, true), 1);
    }

    /** All 400 copies that can be told at most are taken, and each can be asked for. */
    private static void mostTaken() {
        SheetTrees x = new SheetTrees(0, 2, 1);
        x.sheet(16, 16, 1, 20);
        for (int p = 0; p < 8; p++) {
            x.part(1, 1, 50, false);
        }
        due("a sheet for each part", x::run, 8);
        for (int p = 0; p < 8; p++) {
            int number = p;
            due("all taken", () -> x.left(number), 0);
            due("50 taken", () -> x.cut(number, 1), 50);
            due("the last one's number", () -> x.taken(number, 49, 0), number);
            due("the last one's x", () -> x.taken(number, 49, 1), 3);
            due("the last one's y", () -> x.taken(number, 49, 2), 1);
        }
        due("area", () -> x.all(2), 400);
    }

    /** The dearest calls, as many as an object is used for, must go on answering the same. */
    private static void manyCalls() {
        SheetTrees x = new SheetTrees(0, 3, 1);
        for (int i = 0; i < 4; i++) {
            x.sheet(16, 16, 1 + i, 20);
        }
        for (int p = 0; p < 8; p++) {
            x.part(1, 1 + p % 2, 50, p % 3 == 0);
        }
        int first = x.run();
        for (int i = 0; i < 499; i++) {
            due("run again", x::run, first);
        }
    }

    private static void exampleOfReadme() {
        SheetTrees trees = new SheetTrees(1, 2, 2);
        due("readme: sheet", () -> trees.sheet(10, 6, 100, 2), 0);
        due("readme: part", () -> trees.part(4, 3, 3, false), 0);
        due("readme: turned part", () -> trees.part(6, 2, 2, true), 1);
        due("readme: run", trees::run, 2);
        due("readme: copies", () -> trees.cut(0, 1), 2);
        due("readme: number", () -> trees.taken(0, 0, 0), 1);
        due("readme: x", () -> trees.taken(0, 0, 1), 2);
        due("readme: missing", () -> trees.left(0), 1);
        due("readme: cents", () -> trees.all(0), 200);
    }

    private static void due(String call, Answer.Call answer, long want) {
        due(call, answer, Long.toString(want));
    }

    private static void due(String call, Answer.Call answer, String want) {
        String got = Answer.of(answer);
        asked++;
        if (!got.equals(want)) {
            wrong++;
            System.out.println(call + " answered " + got + ", due is " + want);
        }
    }
}
