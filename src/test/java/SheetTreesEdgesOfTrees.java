/** The document's terms, sentence by sentence: trees, the best of them, what is taken, rests, alike, minutes. */
public final class SheetTreesEdgesOfTrees {
    public static void main(String[] args) {
        partsJustAsLarge();
        whereACutMayBe();
        whatACutLeaves();
        stagesOfPieces();
        bestByValueAndCuts();
        bestOfSeveral();
        bestOfBothWays();
        takenWhileWanted();
        rests();
        restsAndLeast();
        alike();
        notAlike();
        minutes();
        Edge.finish();
    }

    private static void partsJustAsLarge() {
        Edge.test("A PART just as large, of either way", """
                new 0 3 1
                part 4 3 1 false = 0
                worth 4 3 0 0 = 12
                worth 4 3 1 0 = 12
                """);
        Edge.test("A piece that is 1 too large is no PART", """
                new 0 3 1
                part 4 3 1 false = 0
                worth 5 3 0 0 = 0
                worth 4 4 0 0 = 0
                """);
        Edge.test("A piece that is 1 too small gives no PART, however it is cut", """
                new 0 3 1
                part 4 3 1 false = 0
                worth 3 3 0 3 = 0
                worth 4 2 1 3 = 0
                worth 3 16 1 3 = 0
                worth 16 2 0 3 = 0
                """);
        Edge.test("TURNED so", """
                new 0 3 1
                part 4 3 1 true = 0
                worth 3 4 0 0 = 12
                worth 4 3 0 0 = 12
                """);
        Edge.test("Or not TURNED", """
                new 0 3 1
                part 4 3 1 false = 0
                worth 3 4 0 0 = 0
                worth 3 16 0 3 = 0
                """);
        Edge.test("A square is the same when it is TURNED", """
                new 0 3 1
                part 3 3 1 true = 0
                worth 3 3 0 0 = 9
                """);
    }

    private static void whereACutMayBe() {
        Edge.test("No cut with 0 stages, one with 1", """
                new 0 1 1
                part 4 3 1 false = 0
                worth 5 3 0 0 = 0
                worth 5 3 0 1 = 12
                """);
        Edge.test("A cut at c = 1", """
                new 0 1 1
                sheet 2 3 1 1 = 0
                part 1 3 2 false = 0
                run = 1
                cut 0 * = 0 2 6 1 0 3 0 0
                taken 0 0 * = 0 0 0 1 3
                taken 0 1 * = 0 1 0 1 3
                """);
        Edge.test("A cut at c = L - 1", """
                new 3 1 1
                sheet 16 1 1 1 = 0
                part 15 1 1 false = 0
                run = 1
                cut 0 * = 0 1 15 1 0 1 0 0
                taken 0 0 * = 0 0 0 15 1
                """);
        Edge.test("No cut at c = L, which would change the way for nothing", """
                new 0 3 1
                part 4 3 1 false = 0
                worth 4 4 0 3 = 0
                worth 4 4 1 1 = 12
                """);
        Edge.test("No cut of a length of 1", """
                new 0 3 1
                part 1 4 1 false = 0
                worth 1 5 0 3 = 0
                worth 1 5 1 1 = 4
                """);
        Edge.test("A cut parts the width in way 0, the height in way 1", """
                new 0 1 1
                part 2 3 1 false = 0
                worth 4 3 0 1 = 12
                worth 4 3 1 1 = 0
                worth 2 6 0 1 = 0
                worth 2 6 1 1 = 12
                """);
    }

    private static void whatACutLeaves() {
        String tell = """
                part 4 3 1 false = 0
                part 1 3 1 false = 1
                """;
        Edge.test("A second piece of 1 behind the kerf is one", "new 1 1 1\n" + tell + "worth 6 3 0 1 = 15\n");
        Edge.test("A second piece of 0 is none", "new 1 1 1\n" + tell + "worth 5 3 0 1 = 12\n");
        Edge.test("A second piece of 1 behind a kerf of 3", "new 3 1 1\n" + tell + "worth 8 3 0 1 = 15\n");
        Edge.test("A second piece of 0 behind a kerf of 3", "new 3 1 1\n" + tell + "worth 7 3 0 1 = 12\n");
        Edge.test("A second piece below 0 is none, and the cut may be", "new 3 1 1\n" + tell + "worth 5 3 0 1 = 12\n");
        Edge.test("Waste of 1 before the kerf lies at 0, the part behind the kerf", """
                new 1 1 1
                sheet 6 3 1 1 = 0
                part 4 3 1 false = 0
                run = 1
                cut 0 * = 0 1 12 1 0 3 1 0
                taken 0 0 * = 0 2 0 4 3
                rest 0 0 * = 0 0 1 3
                """);
        Edge.test("Nothing lies behind a cut that takes all that is left", """
                new 1 1 1
                sheet 5 3 1 1 = 0
                part 4 3 1 false = 0
                run = 1
                cut 0 * = 0 1 12 1 0 3 0 0
                taken 0 0 * = 0 0 0 4 3
                """);
        Edge.test("Nothing lies behind a cut that takes more than is left", """
                new 3 1 1
                sheet 6 3 1 1 = 0
                part 4 3 1 false = 0
                run = 1
                cut 0 * = 0 1 12 1 0 3 0 0
                taken 0 0 * = 0 0 0 4 3
                """);
    }

    private static void stagesOfPieces() {
        Edge.test("The first piece has one stage less: with none left it is a PART or WASTE", """
                new 0 3 1
                part 4 3 1 false = 0
                worth 9 6 0 1 = 0
                worth 9 6 0 2 = 48
                """);
        Edge.test("The second piece keeps way and stages: as many strips as there is room for", """
                new 0 1 1
                part 1 16 1 false = 0
                worth 16 16 0 1 = 256
                """);
        Edge.test("The last second piece keeps its way too, so it is not cut the other way", """
                new 0 3 1
                part 4 3 1 false = 0
                worth 8 6 0 3 = 24
                worth 8 6 1 3 = 24
                """);
        Edge.test("Cuts of a first piece of a first piece need a third stage", """
                new 0 3 1
                part 3 3 1 false = 0
                part 4 2 1 false = 1
                worth 5 5 0 2 = 16
                worth 5 5 0 3 = 17
                """);
        // With one stage more the first strip would hold both parts.
        Edge.test("A first piece of way 0 is laid out with one stage less", """
                new 0 2 1
                sheet 5 5 1 1 = 0
                part 3 3 1 false = 0
                part 4 2 1 false = 1
                run = 1
                cut 0 * = 0 1 8 3 0 13 2 0
                taken 0 0 * = 1 0 1 4 2
                rest 0 0 * = 0 0 4 1
                rest 0 1 * = 4 0 1 5
                """);
        Edge.test("A first piece of way 1 is laid out with one stage less", """
                new 0 2 1
                sheet 5 5 1 1 = 0
                part 3 3 1 false = 0
                part 2 4 1 false = 1
                run = 1
                cut 0 * = 0 1 8 3 1 13 2 0
                taken 0 0 * = 1 1 0 2 4
                rest 0 0 * = 0 0 1 4
                rest 0 1 * = 0 4 5 1
                """);
    }

    private static void bestByValueAndCuts() {
        Edge.test("The greatest VALUE, though with more CUTS", """
                new 0 1 1
                sheet 6 1 1 1 = 0
                part 5 1 1 false = 0
                part 2 1 3 false = 1
                run = 1
                cut 0 * = 0 3 6 2 0 2 0 0
                """);
        Edge.test("Of the same VALUE the fewest CUTS", """
                new 0 1 1
                sheet 6 1 1 1 = 0
                part 1 1 6 false = 0
                part 2 1 3 false = 1
                run = 1
                cut 0 * = 0 3 6 2 0 2 0 0
                taken 0 0 0 = 1
                """);
        Edge.test("Of the same VALUE the fewest CUTS, though with fewer PARTS and more WASTE", """
                new 0 2 1
                sheet 4 5 1 1 = 0
                part 3 1 50 false = 0
                part 2 3 50 false = 1
                run = 1
                cut 0 * = 0 3 15 4 1 12 2 0
                taken 0 0 * = 0 1 0 3 1
                taken 0 1 * = 1 0 1 2 3
                taken 0 2 * = 1 2 1 2 3
                rest 0 0 * = 0 0 1 1
                rest 0 1 * = 0 4 4 1
                """);
        Edge.test("The greatest VALUE, though copies are wanted for less of it", """
                new 0 2 1
                sheet 5 5 1 1 = 0
                part 3 3 1 false = 0
                part 4 2 1 false = 1
                run = 1
                cut 0 1 = 1
                cut 0 2 = 8
                left * = 1 0
                """);
        Edge.test("WASTE is not cut", """
                new 0 3 1
                sheet 5 4 1 1 = 0
                part 3 4 1 false = 0
                run = 1
                cut 0 * = 0 1 12 1 0 4 1 0
                rest 0 0 * = 0 0 2 4
                """);
    }

    private static void bestOfSeveral() {
        Edge.test("PARTS by numbers, the first one TURNED", """
                new 0 1 1
                sheet 4 3 1 3 = 0
                part 3 4 1 true = 0
                part 4 3 1 false = 1
                part 4 3 1 true = 2
                run = 3
                taken 0 0 * = 0 0 0 4 3
                taken 1 0 * = 1 0 0 4 3
                taken 2 0 * = 2 0 0 4 3
                """);
        Edge.test("PARTS by numbers, the first one not wanted", """
                new 0 1 1
                sheet 4 3 1 3 = 0
                part 4 3 0 false = 0
                part 4 3 1 false = 1
                run = 1
                taken 0 0 0 = 1
                """);
        Edge.test("A PART before CUTS that give as much", """
                new 0 1 1
                sheet 4 4 1 1 = 0
                part 2 4 2 false = 0
                part 4 4 1 false = 1
                run = 1
                cut 0 * = 0 1 16 0 0 0 0 0
                taken 0 0 0 = 1
                """);
        Edge.test("CUTS by c: the smaller part first", """
                new 0 1 1
                sheet 5 1 1 1 = 0
                part 4 1 1 false = 0
                part 1 1 1 false = 1
                run = 1
                cut 0 * = 0 2 5 1 0 1 0 0
                taken 0 0 * = 1 0 0 1 1
                taken 0 1 * = 0 1 0 4 1
                """);
        Edge.test("CUTS by c: waste first where that is smaller", """
                new 0 1 1
                sheet 5 1 1 1 = 0
                part 3 1 1 false = 0
                run = 1
                taken 0 0 * = 0 2 0 3 1
                rest 0 0 * = 0 0 2 1
                """);
        Edge.test("CUTS by c: waste last where it is as long as the part", """
                new 0 2 1
                sheet 4 4 1 1 = 0
                part 2 2 2 false = 0
                run = 1
                taken 0 0 * = 0 0 0 2 2
                taken 0 1 * = 0 0 2 2 2
                rest 0 0 * = 2 0 2 4
                """);
        Edge.test("CUTS by c in the pieces too", """
                new 0 2 1
                sheet 3 3 1 1 = 0
                part 2 2 1 false = 0
                run = 1
                cut 0 * = 0 1 4 2 0 5 2 0
                taken 0 0 * = 0 0 1 2 2
                rest 0 0 * = 0 0 2 1
                rest 0 1 * = 2 0 1 3
                """);
    }

    private static void bestOfBothWays() {
        Edge.test("Way 1 for more VALUE", """
                new 0 1 1
                sheet 4 4 1 1 = 0
                part 4 3 1 false = 0
                run = 1
                cut 0 * = 0 1 12 1 1 4 1 0
                taken 0 0 * = 0 0 1 4 3
                rest 0 0 * = 0 0 4 1
                """);
        Edge.test("Way 1 for fewer CUTS of the same VALUE", """
                new 0 1 1
                sheet 4 4 1 1 = 0
                part 4 2 2 false = 0
                part 1 4 4 false = 1
                run = 1
                cut 0 * = 0 2 16 1 1 4 0 0
                taken 0 0 * = 0 0 0 4 2
                taken 0 1 * = 0 0 2 4 2
                """);
        Edge.test("Way 0 for fewer CUTS of the same VALUE", """
                new 0 1 1
                sheet 4 4 1 1 = 0
                part 2 4 2 false = 0
                part 4 1 4 false = 1
                run = 1
                cut 0 * = 0 2 16 1 0 4 0 0
                """);
        Edge.test("Of two as good that of way 0", """
                new 0 1 1
                sheet 4 4 1 1 = 0
                part 4 2 2 false = 0
                part 2 4 2 false = 1
                run = 1
                cut 0 * = 0 2 16 1 0 4 0 0
                taken 0 0 * = 1 0 0 2 4
                taken 0 1 * = 1 2 0 2 4
                """);
        Edge.test("Of two as good that of way 0, though way 1 has more PARTS and less WASTE", """
                new 0 2 1
                sheet 4 5 1 1 = 0
                part 2 3 50 false = 0
                part 3 4 50 false = 1
                run = 1
                cut 0 * = 0 1 12 2 0 8 2 0
                taken 0 0 * = 1 0 1 3 4
                rest 0 0 * = 0 0 3 1
                rest 0 1 * = 3 0 1 5
                """);
        Edge.test("Way 0 without a cut", """
                new 0 3 1
                sheet 4 4 1 1 = 0
                part 4 4 1 false = 0
                run = 1
                cut 0 * = 0 1 16 0 0 0 0 0
                """);
    }

    private static void takenWhileWanted() {
        String tell = """
                new 0 1 1
                sheet 9 1 1 1 = 0
                """;
        Edge.test("As many copies as the TREE has", tell + """
                part 3 1 3 false = 0
                run = 1
                cut 0 * = 0 3 9 2 0 2 0 0
                left 0 = 0
                """);
        Edge.test("One copy fewer: the last is WASTE, but its CUTS are made and it is no rest", tell + """
                part 3 1 2 false = 0
                run = 1
                cut 0 * = 0 2 6 2 0 2 0 0
                taken 0 0 * = 0 0 0 3 1
                taken 0 1 * = 0 3 0 3 1
                taken 0 2 0 ! IndexOutOfBounds
                rest 0 0 0 ! IndexOutOfBounds
                left 0 = 0
                """);
        Edge.test("One copy: the first", tell + """
                part 3 1 1 false = 0
                run = 1
                cut 0 * = 0 1 3 2 0 2 0 0
                taken 0 0 * = 0 0 0 3 1
                """);
        Edge.test("One copy more", tell + """
                part 3 1 4 false = 0
                run = 1
                cut 0 1 = 3
                left 0 = 1
                """);
        Edge.test("One copy more, and a sheet for it", """
                new 0 1 1
                sheet 9 1 1 2 = 0
                part 3 1 4 false = 0
                run = 2
                cut 1 * = 0 1 3 2 0 2 0 0
                taken 1 0 * = 0 0 0 3 1
                left 0 = 0
                """);
        Edge.test("Another PART is taken behind copies that are not", """
                new 0 1 1
                sheet 7 1 1 1 = 0
                part 2 1 1 false = 0
                part 3 1 5 false = 1
                run = 1
                cut 0 * = 0 2 5 2 0 2 0 0
                taken 0 0 * = 0 0 0 2 1
                taken 0 1 * = 1 4 0 3 1
                left * = 0 4
                """);
        String strips = """
                new 0 2 1
                sheet 9 6 1 1 = 0
                part 4 3 4 false = 0
                """;
        Edge.test("First pieces before second ones", strips + """
                run = 1
                cut 0 * = 0 4 48 4 0 20 1 0
                taken 0 0 * = 0 0 0 4 3
                taken 0 1 * = 0 0 3 4 3
                taken 0 2 * = 0 4 0 4 3
                taken 0 3 * = 0 4 3 4 3
                rest 0 0 * = 8 0 1 6
                """);
        Edge.test("First pieces before second ones, the last not wanted", strips + """
                count 0 3 = 4
                run = 1
                cut 0 * = 0 3 36 4 0 20 1 0
                taken 0 2 * = 0 4 0 4 3
                taken 0 3 0 ! IndexOutOfBounds
                """);
        Edge.test("A PART of which the last copy was taken is not wanted on the next sheet", """
                new 0 1 1
                sheet 3 1 1 2 = 0
                part 3 1 1 false = 0
                part 2 1 1 false = 1
                run = 2
                taken 0 0 * = 0 0 0 3 1
                taken 1 0 * = 1 1 0 2 1
                """);
        Edge.test("A PART of which a copy is left is wanted on the next sheet", """
                new 0 1 1
                sheet 3 1 1 2 = 0
                part 3 1 2 false = 0
                part 2 1 1 false = 1
                run = 2
                taken 1 0 * = 0 0 0 3 1
                left * = 0 1
                """);
    }

    private static void rests() {
        Edge.test("Rests in the TREE's order", """
                new 0 2 2
                sheet 7 5 1 1 = 0
                part 4 3 1 false = 0
                run = 1
                cut 0 * = 0 1 12 2 0 9 2 0
                taken 0 0 * = 0 0 2 4 3
                rest 0 0 * = 0 0 4 2
                rest 0 1 * = 4 0 3 5
                rest 0 2 0 ! IndexOutOfBounds
                """);
        Edge.test("Waste that is no rest has no number", """
                new 0 2 3
                sheet 7 5 1 1 = 0
                part 4 3 1 false = 0
                run = 1
                cut 0 6 = 1
                rest 0 0 * = 4 0 3 5
                rest 0 1 0 ! IndexOutOfBounds
                """);
        Edge.test("What the kerf takes is no rest", """
                new 3 1 1
                sheet 7 3 1 1 = 0
                part 4 3 1 false = 0
                run = 1
                cut 0 6 = 0
                """);
        Edge.test("A PART that was not TAKEN is no rest", """
                new 0 1 1
                sheet 8 3 1 1 = 0
                part 4 3 1 false = 0
                run = 1
                cut 0 1 = 1
                cut 0 6 = 0
                rest 0 0 0 ! IndexOutOfBounds
                """);
        Edge.test("Waste beside a PART that was not TAKEN is a rest", """
                new 0 1 1
                sheet 9 3 1 1 = 0
                part 4 3 1 false = 0
                run = 1
                cut 0 1 = 1
                cut 0 6 = 1
                rest 0 0 * = 0 0 1 3
                taken 0 0 * = 0 1 0 4 3
                """);
    }

    private static void restsAndLeast() {
        Edge.test("Both sides are just LEAST", """
                new 0 1 2
                sheet 5 2 1 1 = 0
                part 3 2 1 false = 0
                run = 1
                cut 0 6 = 1
                rest 0 0 * = 0 0 2 2
                """);
        Edge.test("Both sides are 1 below LEAST", """
                new 0 1 3
                sheet 5 2 1 1 = 0
                part 3 2 1 false = 0
                run = 1
                cut 0 6 = 0
                """);
        Edge.test("The width alone is 1 below LEAST", """
                new 0 1 2
                sheet 4 2 1 1 = 0
                part 3 2 1 false = 0
                run = 1
                cut 0 6 = 0
                """);
        Edge.test("The height alone is 1 below LEAST", """
                new 0 1 2
                sheet 2 4 1 1 = 0
                part 2 3 1 false = 0
                run = 1
                cut 0 6 = 0
                """);
        Edge.test("A side of 1 where LEAST is 1", """
                new 0 1 1
                sheet 4 2 1 1 = 0
                part 3 2 1 false = 0
                run = 1
                cut 0 6 = 1
                rest 0 0 * = 0 0 1 2
                """);
    }

    private static void alike() {
        Edge.test("The first is ALIKE itself", """
                new 0 1 1
                sheet 1 1 1 1 = 0
                part 1 1 1 false = 0
                run = 1
                cut 0 7 = 0
                """);
        Edge.test("Twenty ALIKE", """
                new 0 1 1
                sheet 2 1 1 20 = 0
                part 1 1 40 false = 0
                run = 20
                cut 1 7 = 0
                cut 10 7 = 0
                cut 19 7 = 0
                """);
        Edge.test("ALIKE by the TREE, though less is TAKEN", """
                new 0 1 1
                sheet 2 1 1 2 = 0
                part 1 1 3 false = 0
                run = 2
                cut 1 1 = 1
                cut 1 7 = 0
                """);
        Edge.test("ALIKE with another SHEET between", """
                new 0 1 1
                sheet 4 1 3 2 = 0
                sheet 1 1 1 1 = 1
                part 1 1 6 false = 0
                run = 3
                cut 0 0 = 0
                cut 1 0 = 1
                cut 2 0 = 0
                cut 2 1 = 1
                cut 0 7 = 0
                cut 1 7 = 1
                cut 2 7 = 0
                """);
        Edge.test("ALIKE, though a PART that the TREE does not hold is no longer wanted", """
                new 0 1 1
                sheet 2 2 2 3 = 0
                sheet 3 3 5 1 = 1
                part 2 2 4 false = 0
                part 3 3 1 false = 1
                run = 4
                cut 0 0 = 0
                cut 2 0 = 0
                cut 3 0 = 1
                cut 2 7 = 0
                new 0 1 1
                sheet 2 2 4 3 = 0
                sheet 3 3 5 1 = 1
                part 2 2 2 false = 0
                part 3 3 1 false = 1
                run = 3
                cut 0 0 = 1
                cut 1 7 = 1
                cut 2 7 = 1
                """);
        Edge.test("The first that is ALIKE is not the first of the SHEET", """
                new 0 1 1
                sheet 4 2 1 4 = 0
                part 4 2 1 false = 0
                part 2 2 5 false = 1
                run = 4
                cut 0 7 = 0
                cut 1 7 = 1
                cut 2 7 = 1
                cut 3 1 = 1
                cut 3 7 = 1
                """);
    }

    private static void notAlike() {
        Edge.test("Not ALIKE: another SHEET as large", """
                new 0 1 1
                sheet 2 2 1 1 = 0
                sheet 2 2 1 1 = 1
                part 2 2 2 false = 0
                run = 2
                cut 0 7 = 0
                cut 1 7 = 1
                """);
        Edge.test("Not ALIKE: another PART as large", """
                new 0 1 1
                sheet 2 2 1 2 = 0
                part 2 2 1 false = 0
                part 2 2 1 false = 1
                run = 2
                cut 0 7 = 0
                cut 1 7 = 1
                """);
        Edge.test("Not ALIKE: as many PARTS, CUTS and MINUTES, but another TREE", """
                new 0 1 1
                sheet 4 1 1 2 = 0
                part 3 1 1 false = 0
                part 2 1 0 false = 1
                part 1 1 1 false = 2
                part 2 1 2 true = 3
                run = 2
                cut 0 * = 0 2 4 1 0 1 0 0
                cut 1 * = 0 2 4 1 0 1 0 1
                """);
    }

    private static void minutes() {
        Edge.test("MINUTES without a CUT", """
                new 0 3 1
                sheet 16 16 1 1 = 0
                part 16 16 1 false = 0
                run = 1
                cut 0 5 = 0
                """);
        Edge.test("MINUTES of a CUT of way 0: the height", """
                new 0 1 1
                sheet 2 16 1 1 = 0
                part 1 16 1 false = 0
                run = 1
                cut 0 4 = 0
                cut 0 5 = 16
                """);
        Edge.test("MINUTES of a CUT of way 1: the width", """
                new 0 1 1
                sheet 16 2 1 1 = 0
                part 16 1 1 false = 0
                run = 1
                cut 0 4 = 1
                cut 0 5 = 16
                """);
        Edge.test("MINUTES of CUTS in pieces: the piece's side, not the sheet's", """
                new 1 2 2
                sheet 10 6 100 1 = 0
                part 4 3 3 false = 0
                run = 1
                cut 0 3 = 3
                cut 0 5 = 16
                """);
        Edge.test("MINUTES of 240 CUTS", """
                new 0 2 1
                sheet 16 16 1 1 = 0
                part 1 1 1 false = 0
                run = 1
                cut 0 * = 0 1 1 240 0 465 1 0
                rest 0 0 * = 15 0 1 16
                """);
    }
}
