import java.util.ArrayList;
import java.util.List;
import java.util.Random;

/**
 * Runs of calls with a fixed seed, each answer compared with that of a slow model that follows the
 * document's words: trees are objects, made anew for every sheet and compared as texts.
 */
public final class SheetTreesAgainstModel {
    private static final int OBJECTS = 1500;
    // What an object answers beyond these is free.
    private static final int CALLS = 512;
    private static final int WRONG_TO_SHOW = 20;

    private static int wrong = 0;
    private static long compared = 0;

    private final Random random;
    private final int longest;
    private final SheetTrees real;
    private final Model model;
    private final StringBuilder told = new StringBuilder();
    private int calls = 0;

    private SheetTreesAgainstModel(int seed) {
        random = new Random(seed);
        longest = seed % 4 == 0 ? 16 : seed % 4 == 1 ? 5 : 10;
        int kerf = random.nextInt(8) - 2;
        int stages = random.nextInt(7) - 1;
        int least = random.nextInt(3) == 0 ? random.nextInt(20) - 1 : random.nextInt(5);
        real = new SheetTrees(kerf, stages, least);
        model = new Model(kerf, stages, least);
        told.append("object ").append(seed).append(": new(").append(kerf).append(", ").append(stages)
                .append(", ").append(least).append(")");
    }

    public static void main(String[] args) {
        for (int seed = 0; seed < OBJECTS && wrong < WRONG_TO_SHOW; seed++) {
            new SheetTreesAgainstModel(seed).play();
        }
        System.out.println(compared + " answers compared, " + wrong + " wrong");
        if (wrong != 0 || compared == 0) {
            System.exit(1);
        }
    }

    private void play() {
        while (calls < CALLS && wrong < WRONG_TO_SHOW) {
            for (int i = random.nextInt(7); i > 0; i--) {
                tell();
            }
            if (random.nextInt(5) != 0) {
                compare("run()", real::run, model::run);
            }
            for (int i = 10 + random.nextInt(60); i > 0; i--) {
                ask();
            }
        }
    }

    private void tell() {
        int pick = random.nextInt(5);
        if (pick < 2) {
            tellSheet();
        } else if (pick < 4) {
            tellPart();
        } else {
            int part = oneOf(model.parts.size());
            int count = count();
            compare("count(" + part + ", " + count + ")",
                    () -> real.count(part, count), () -> model.count(part, count));
        }
    }

    private void tellSheet() {
        int width = side(longest);
        int height = side(longest);
        int cents = rarely() ? edge(1, 10000) : 1 + random.nextInt(random.nextBoolean() ? 5 : 10000);
        int stock = rarely() ? edge(0, 20) : random.nextInt(random.nextBoolean() ? 4 : 21);
        compare("sheet(" + width + ", " + height + ", " + cents + ", " + stock + ")",
                () -> real.sheet(width, height, cents, stock), () -> model.sheet(width, height, cents, stock));
    }

    private void tellPart() {
        int most = random.nextInt(3) == 0 ? longest : 1 + longest / 2;
        int width = side(most);
        int height = side(most);
        int count = count();
        boolean turns = random.nextBoolean();
        compare("part(" + width + ", " + height + ", " + count + ", " + turns + ")",
                () -> real.part(width, height, count, turns), () -> model.part(width, height, count, turns));
    }

    private void ask() {
        int pick = random.nextInt(20);
        if (pick < 4) {
            int sheet = oneOf(model.cuts.size());
            int what = oneOf(8);
            compare("cut(" + sheet + ", " + what + ")", () -> real.cut(sheet, what), () -> model.cut(sheet, what));
        } else if (pick < 14) {
            askForPiece(pick < 9);
        } else if (pick < 16) {
            int part = oneOf(model.parts.size());
            compare("left(" + part + ")", () -> real.left(part), () -> model.left(part));
        } else if (pick < 17) {
            int what = oneOf(3);
            compare("all(" + what + ")", () -> real.all(what), () -> model.all(what));
        } else if (pick < 18) {
            compare("bound()", real::bound, model::bound);
        } else {
            askForWorth();
        }
    }

    private void askForPiece(boolean taken) {
        int sheet = oneOf(model.cuts.size());
        int there = 0;
        if (sheet >= 0 && sheet < model.cuts.size()) {
            Cut cut = model.cuts.get(sheet);
            there = taken ? cut.taken.size() : cut.rests.size();
        }
        int k = oneOf(there);
        int what = oneOf(taken ? 5 : 4);
        if (taken) {
            compare("taken(" + sheet + ", " + k + ", " + what + ")",
                    () -> real.taken(sheet, k, what), () -> model.taken(sheet, k, what));
        } else {
            compare("rest(" + sheet + ", " + k + ", " + what + ")",
                    () -> real.rest(sheet, k, what), () -> model.rest(sheet, k, what));
        }
    }

    private void askForWorth() {
        int width = side(16);
        int height = side(16);
        int way = rarely() ? edge(0, 1) : random.nextInt(2);
        int stages = rarely() ? edge(0, 3) : random.nextInt(4);
        compare("worth(" + width + ", " + height + ", " + way + ", " + stages + ")",
                () -> real.worth(width, height, way, stages), () -> model.worth(width, height, way, stages));
    }

    private boolean rarely() {
        return random.nextInt(25) == 0;
    }

    /** The last number that is allowed, the first that is not, or one far off, at one of the two ends. */
    private int edge(int low, int high) {
        if (random.nextInt(6) == 0) {
            return random.nextBoolean() ? Integer.MIN_VALUE : Integer.MAX_VALUE;
        }
        int beyond = random.nextInt(2);
        return random.nextBoolean() ? low - beyond : high + beyond;
    }

    private int side(int most) {
        return rarely() ? edge(1, 16) : 1 + random.nextInt(most);
    }

    private int count() {
        return rarely() ? edge(0, 50) : random.nextInt(random.nextBoolean() ? 5 : 51);
    }

    /** A place of a row, now and then one beside it. */
    private int oneOf(int size) {
        return rarely() || size == 0 ? edge(0, size - 1) : random.nextInt(size);
    }

    private void compare(String call, Answer.Call asReal, Answer.Call asModel) {
        if (calls == CALLS) {
            return;
        }
        calls++;
        compared++;
        String got = Answer.of(asReal);
        String want = Answer.of(asModel);
        if (!got.equals(want)) {
            wrong++;
            System.out.println(told + " " + call + " answered " + got + ", due is " + want);
        }
        if (call.startsWith("sheet") || call.startsWith("part") || call.startsWith("count") || call.startsWith("run")) {
            told.append(' ').append(call);
        }
    }

    private static final class Tree {
        int part = -1;
        int c = 0;
        Tree first;
        Tree second;
        int value = 0;
        int cuts = 0;

        String text() {
            String rest = second == null ? "" : second.text();
            return c > 0 ? "(" + c + ":" + first.text() + rest + ")" : part >= 0 ? "p" + part : "w";
        }

        boolean isBetterThan(Tree other) {
            return value != other.value ? value > other.value : cuts < other.cuts;
        }
    }

    private static final class Cut {
        int sheet;
        int way;
        Tree tree;
        int minutes = 0;
        int area = 0;
        final List<int[]> taken = new ArrayList<>();
        final List<int[]> rests = new ArrayList<>();
    }

    private static final class Model {
        final int kerf;
        final int stages;
        final int least;
        final List<int[]> sheets = new ArrayList<>();
        final List<int[]> parts = new ArrayList<>();
        List<Cut> cuts = new ArrayList<>();
        int[] left = new int[0];
        boolean ran = false;

        Model(int kerf, int stages, int least) {
            this.kerf = kerf < 0 ? 0 : kerf > 3 ? 3 : kerf;
            this.stages = stages < 1 ? 1 : stages > 3 ? 3 : stages;
            this.least = least < 1 ? 1 : least > 16 ? 16 : least;
        }

        int sheet(int width, int height, int cents, int stock) {
            if (!side(width) || !side(height) || cents < 1 || cents > 10000 || stock < 0 || stock > 20) {
                throw new IllegalArgumentException();
            }
            if (sheets.size() == 4) {
                throw new IllegalStateException();
            }
            sheets.add(new int[] {width, height, cents, stock});
            ran = false;
            return sheets.size() - 1;
        }

        int part(int width, int height, int count, boolean turns) {
            if (!side(width) || !side(height) || count < 0 || count > 50) {
                throw new IllegalArgumentException();
            }
            if (parts.size() == 8) {
                throw new IllegalStateException();
            }
            parts.add(new int[] {width, height, count, turns ? 1 : 0});
            ran = false;
            return parts.size() - 1;
        }

        int count(int part, int count) {
            if (part < 0 || part >= parts.size()) {
                throw new IndexOutOfBoundsException();
            }
            if (count < 0 || count > 50) {
                throw new IllegalArgumentException();
            }
            int before = parts.get(part)[2];
            parts.get(part)[2] = count;
            ran = false;
            return before;
        }

        int worth(int width, int height, int way, int stages) {
            if (!side(width) || !side(height) || way < 0 || way > 1 || stages < 0 || stages > 3) {
                throw new IllegalArgumentException();
            }
            return best(width, height, way, stages, counts(), noTrees()).value;
        }

        int run() {
            cuts = new ArrayList<>();
            left = counts();
            ran = true;
            int[] stock = new int[sheets.size()];
            for (int i = 0; i < stock.length; i++) {
                stock[i] = sheets.get(i)[3];
            }
            while (cuts.size() < 20) {
                Cut chosen = null;
                int[] leftThen = null;
                Tree[] known = noTrees();
                for (int i = 0; i < stock.length; i++) {
                    if (stock[i] == 0) {
                        continue;
                    }
                    int[] leftHere = left.clone();
                    Cut here = cutOf(i, leftHere, known);
                    if (here.area > 0 && (chosen == null || (double) here.area / sheets.get(i)[2]
                            > (double) chosen.area / sheets.get(chosen.sheet)[2] + 1e-12)) {
                        chosen = here;
                        leftThen = leftHere;
                    }
                }
                if (chosen == null) {
                    break;
                }
                cuts.add(chosen);
                left = leftThen;
                stock[chosen.sheet]--;
            }
            return cuts.size();
        }

        int[] counts() {
            int[] counts = new int[parts.size()];
            for (int p = 0; p < counts.length; p++) {
                counts[p] = parts.get(p)[2];
            }
            return counts;
        }

        Cut cutOf(int sheet, int[] leftHere, Tree[] known) {
            int[] s = sheets.get(sheet);
            Tree way0 = best(s[0], s[1], 0, stages, left, known);
            Tree way1 = best(s[0], s[1], 1, stages, left, known);
            Cut cut = new Cut();
            cut.sheet = sheet;
            cut.way = way1.isBetterThan(way0) ? 1 : 0;
            cut.tree = cut.way == 1 ? way1 : way0;
            place(cut, cut.tree, new int[] {0, 0, s[0], s[1]}, cut.way, leftHere);
            return cut;
        }

        static Tree[] noTrees() {
            return new Tree[4 * 2 * 17 * 17];
        }

        Tree best(int w, int h, int way, int s, int[] wanted, Tree[] known) {
            int key = ((s * 2 + way) * 17 + w) * 17 + h;
            Tree best = known[key];
            if (best != null) {
                return best;
            }
            best = new Tree();
            for (int p = 0; p < parts.size(); p++) {
                int[] part = parts.get(p);
                boolean fits = part[0] == w && part[1] == h || part[3] == 1 && part[0] == h && part[1] == w;
                if (wanted[p] > 0 && fits) {
                    Tree tree = new Tree();
                    tree.part = p;
                    tree.value = w * h;
                    best = tree.isBetterThan(best) ? tree : best;
                }
            }
            int length = way == 0 ? w : h;
            for (int c = 1; s > 0 && c < length; c++) {
                Tree tree = new Tree();
                tree.c = c;
                int second = length - c - kerf;
                tree.first = way == 0 ? best(c, h, 1, s - 1, wanted, known) : best(w, c, 0, s - 1, wanted, known);
                tree.value = tree.first.value;
                tree.cuts = tree.first.cuts + 1;
                if (second > 0) {
                    tree.second = way == 0 ? best(second, h, 0, s, wanted, known)
                            : best(w, second, 1, s, wanted, known);
                    tree.value += tree.second.value;
                    tree.cuts += tree.second.cuts;
                }
                best = tree.isBetterThan(best) ? tree : best;
            }
            known[key] = best;
            return best;
        }

        void place(Cut cut, Tree tree, int[] box, int way, int[] leftHere) {
            if (tree.c > 0) {
                cut.minutes += box[3 - way];
                int[] first = box.clone();
                first[2 + way] = tree.c;
                place(cut, tree.first, first, 1 - way, leftHere);
                if (tree.second != null) {
                    int[] second = box.clone();
                    second[way] += tree.c + kerf;
                    second[2 + way] -= tree.c + kerf;
                    place(cut, tree.second, second, way, leftHere);
                }
            } else if (tree.part >= 0) {
                if (leftHere[tree.part] > 0) {
                    leftHere[tree.part]--;
                    cut.area += box[2] * box[3];
                    cut.taken.add(new int[] {tree.part, box[0], box[1], box[2], box[3]});
                }
            } else if (box[2] >= least && box[3] >= least) {
                cut.rests.add(box);
            }
        }

        Cut cutSheet(int sheet) {
            needRun();
            if (sheet < 0 || sheet >= cuts.size()) {
                throw new IndexOutOfBoundsException();
            }
            return cuts.get(sheet);
        }

        long cut(int sheet, int what) {
            Cut cut = cutSheet(sheet);
            int alike = 0;
            while (cuts.get(alike).sheet != cut.sheet || cuts.get(alike).way != cut.way
                    || !cuts.get(alike).tree.text().equals(cut.tree.text())) {
                alike++;
            }
            return of(new int[] {cut.sheet, cut.taken.size(), cut.area, cut.tree.cuts, cut.way, cut.minutes,
                cut.rests.size(), alike}, what);
        }

        long taken(int sheet, int k, int what) {
            return of(of(cutSheet(sheet).taken, k), what);
        }

        long rest(int sheet, int k, int what) {
            return of(of(cutSheet(sheet).rests, k), what);
        }

        long left(int part) {
            needRun();
            return of(left, part);
        }

        long all(int what) {
            needRun();
            int[] sums = new int[3];
            for (Cut cut : cuts) {
                sums[0] += sheets.get(cut.sheet)[2];
                sums[1] += sheets.get(cut.sheet)[0] * sheets.get(cut.sheet)[1];
                sums[2] += cut.area;
            }
            return of(sums, what);
        }

        long bound() {
            int largest = 0;
            int area = 0;
            for (int[] sheet : sheets) {
                largest = Math.max(largest, sheet[0] * sheet[1]);
            }
            for (int[] part : parts) {
                area += part[0] * part[1] * part[2];
            }
            return largest == 0 ? 0 : area / largest + (area % largest == 0 ? 0 : 1);
        }

        void needRun() {
            if (!ran) {
                throw new IllegalStateException();
            }
        }

        static boolean side(int length) {
            return length >= 1 && length <= 16;
        }

        static int of(int[] row, int place) {
            if (place < 0 || place >= row.length) {
                throw new IndexOutOfBoundsException();
            }
            return row[place];
        }

        static int[] of(List<int[]> rows, int place) {
            if (place < 0 || place >= rows.size()) {
                throw new IndexOutOfBoundsException();
            }
            return rows.get(place);
        }
    }
}
