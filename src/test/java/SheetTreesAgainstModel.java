import java.util.ArrayList;
import java.util.HashMap;
import java.util.List;
import java.util.Map;
import java.util.Random;

/**
 * Runs of calls with a fixed seed, each answer compared with that of a slow model that follows the
 * document's words: trees are objects, made anew for every sheet and compared as texts.
 */
public final class SheetTreesAgainstModel {
    private static final int RUNS = 400;
    private static final int CALLS = 40;

    private static int wrong = 0;
    private static long compared = 0;

    private interface Call {
        long answer();
    }

    public static void main(String[] args) {
        for (int run = 0; run < RUNS && wrong < 20; run++) {
            oneRun(run);
        }
        System.out.println(compared + " answers compared, " + wrong + " wrong");
        if (wrong != 0 || compared == 0) {
            System.exit(1);
        }
    }

    private static void oneRun(int run) {
        Random random = new Random(run);
        int kerf = random.nextInt(6) - 1;
        int stages = random.nextInt(5);
        int least = random.nextInt(6);
        SheetTrees real = new SheetTrees(kerf, stages, least);
        Model model = new Model(kerf, stages, least);
        int longest = run % 4 == 0 ? 16 : run % 4 == 1 ? 5 : 10;
        String where = "run " + run + " new(" + kerf + ", " + stages + ", " + least + ")";
        for (int call = 0; call < CALLS && wrong < 20; call++) {
            where = oneCall(where, random, longest, real, model);
        }
    }

    private static String oneCall(String where, Random random, int longest, SheetTrees real, Model model) {
        int a = side(random, longest);
        int b = side(random, longest);
        switch (random.nextInt(8)) {
            case 0: case 1: {
                int cents = random.nextInt(30) == 0 ? 0 : 1 + random.nextInt(50);
                int stock = random.nextInt(30) == 0 ? 21 : random.nextInt(7);
                return compare(where, "sheet(" + a + ", " + b + ", " + cents + ", " + stock + ")",
                        () -> real.sheet(a, b, cents, stock), () -> model.sheet(a, b, cents, stock));
            }
            case 2: case 3: {
                int w = 1 + a / 2;
                int h = 1 + b / 2;
                int count = count(random);
                boolean turns = random.nextBoolean();
                return compare(where, "part(" + w + ", " + h + ", " + count + ", " + turns + ")",
                        () -> real.part(w, h, count, turns), () -> model.part(w, h, count, turns));
            }
            case 4: {
                int part = random.nextInt(10) - 1;
                int count = count(random);
                return compare(where, "count(" + part + ", " + count + ")",
                        () -> real.count(part, count), () -> model.count(part, count));
            }
            case 5: {
                int way = random.nextInt(20) == 0 ? random.nextInt(4) - 1 : random.nextInt(2);
                int s = random.nextInt(20) == 0 ? random.nextInt(6) - 1 : random.nextInt(4);
                return compare(where, "worth(" + a + ", " + b + ", " + way + ", " + s + ")",
                        () -> real.worth(a, b, way, s), () -> model.worth(a, b, way, s));
            }
            default: {
                if (random.nextInt(4) != 0) {
                    where = compare(where, "run()", real::run, model::run);
                }
                compareAll(where, real, model);
                return where;
            }
        }
    }

    private static int side(Random random, int longest) {
        return random.nextInt(40) == 0 ? random.nextInt(2) * 17 : 1 + random.nextInt(longest);
    }

    private static int count(Random random) {
        return random.nextInt(30) == 0 ? random.nextInt(2) * 52 - 1 : random.nextInt(random.nextBoolean() ? 5 : 51);
    }

    /** Every question that can be asked of a run, and those just beyond. */
    private static void compareAll(String where, SheetTrees real, Model model) {
        compare(where, "bound()", real::bound, model::bound);
        for (int i = -1; i <= 3; i++) {
            int what = i;
            compare(where, "all(" + what + ")", () -> real.all(what), () -> model.all(what));
        }
        for (int i = -1; i <= 8; i++) {
            int part = i;
            compare(where, "left(" + part + ")", () -> real.left(part), () -> model.left(part));
        }
        for (int i = -1; i <= model.cuts.size() && i <= 20; i++) {
            compareCutSheet(where, i, real, model);
        }
    }

    private static void compareCutSheet(String where, int sheet, SheetTrees real, Model model) {
        for (int i = -1; i <= 8; i++) {
            int what = i;
            compare(where, "cut(" + sheet + ", " + what + ")",
                    () -> real.cut(sheet, what), () -> model.cut(sheet, what));
        }
        boolean known = sheet >= 0 && sheet < model.cuts.size();
        int takenThere = known ? model.cuts.get(sheet).taken.size() : 0;
        int restsThere = known ? model.cuts.get(sheet).rests.size() : 0;
        for (int i = -1; i <= takenThere; i++) {
            for (int j = -1; j <= 5; j++) {
                int k = i;
                int what = j;
                compare(where, "taken(" + sheet + ", " + k + ", " + what + ")",
                        () -> real.taken(sheet, k, what), () -> model.taken(sheet, k, what));
            }
        }
        for (int i = -1; i <= restsThere; i++) {
            for (int j = -1; j <= 4; j++) {
                int k = i;
                int what = j;
                compare(where, "rest(" + sheet + ", " + k + ", " + what + ")",
                        () -> real.rest(sheet, k, what), () -> model.rest(sheet, k, what));
            }
        }
    }

    private static String compare(String where, String call, Call real, Call model) {
        String got = outcome(real);
        String want = outcome(model);
        compared++;
        if (!got.equals(want)) {
            wrong++;
            System.out.println(where + ": " + call + " answered " + got + ", due is " + want);
        }
        return where + " " + call;
    }

    private static String outcome(Call call) {
        try {
            return Long.toString(call.answer());
        } catch (RuntimeException e) {
            return "throws." + e.getClass().getSimpleName();
        }
    }

    private static final class Tree {
        int part = -1;
        int c = 0;
        Tree first;
        Tree second;
        int value = 0;
        int cuts = 0;

        String text() {
            String rest = second == null ? "" : second.text();
            return c > 0 ? "(" + c + ":" + first.text() + rest + ")" : part >= 0 ? "p" + part : "w";
        }

        boolean isBetterThan(Tree other) {
            return value != other.value ? value > other.value : cuts < other.cuts;
        }
    }

    private static final class Cut {
        int sheet;
        int way;
        Tree tree;
        int minutes = 0;
        int area = 0;
        final List<int[]> taken = new ArrayList<>();
        final List<int[]> rests = new ArrayList<>();
    }

    private static final class Model {
        final int kerf;
        final int stages;
        final int least;
        final List<int[]> sheets = new ArrayList<>();
        final List<int[]> parts = new ArrayList<>();
        List<Cut> cuts = new ArrayList<>();
        int[] left = new int[0];
        boolean ran = false;

        Model(int kerf, int stages, int least) {
            this.kerf = kerf < 0 ? 0 : kerf > 3 ? 3 : kerf;
            this.stages = stages < 1 ? 1 : stages > 3 ? 3 : stages;
            this.least = least < 1 ? 1 : least > 16 ? 16 : least;
        }

        int sheet(int width, int height, int cents, int stock) {
            if (!side(width) || !side(height) || cents < 1 || cents > 10000 || stock < 0 || stock > 20) {
                throw new IllegalArgumentException();
            }
            if (sheets.size() == 4) {
                throw new IllegalStateException();
            }
            sheets.add(new int[] {width, height, cents, stock});
            ran = false;
            return sheets.size() - 1;
        }

        int part(int width, int height, int count, boolean turns) {
            if (!side(width) || !side(height) || count < 0 || count > 50) {
                throw new IllegalArgumentException();
            }
            if (parts.size() == 8) {
                throw new IllegalStateException();
            }
            parts.add(new int[] {width, height, count, turns ? 1 : 0});
            ran = false;
            return parts.size() - 1;
        }

        int count(int part, int count) {
            if (part < 0 || part >= parts.size()) {
                throw new IndexOutOfBoundsException();
            }
            if (count < 0 || count > 50) {
                throw new IllegalArgumentException();
            }
            int before = parts.get(part)[2];
            parts.get(part)[2] = count;
            ran = false;
            return before;
        }

        int worth(int width, int height, int way, int stages) {
            if (!side(width) || !side(height) || way < 0 || way > 1 || stages < 0 || stages > 3) {
                throw new IllegalArgumentException();
            }
            return best(width, height, way, stages, counts(), new HashMap<>()).value;
        }

        int run() {
            cuts = new ArrayList<>();
            left = counts();
            ran = true;
            int[] stock = new int[sheets.size()];
            for (int i = 0; i < stock.length; i++) {
                stock[i] = sheets.get(i)[3];
            }
            while (cuts.size() < 20) {
                Cut chosen = null;
                int[] leftThen = null;
                Map<String, Tree> known = new HashMap<>();
                for (int i = 0; i < stock.length; i++) {
                    if (stock[i] == 0) {
                        continue;
                    }
                    int[] leftHere = left.clone();
                    Cut here = cutOf(i, leftHere, known);
                    if (here.area > 0 && (chosen == null || (double) here.area / sheets.get(i)[2]
                            > (double) chosen.area / sheets.get(chosen.sheet)[2] + 1e-12)) {
                        chosen = here;
                        leftThen = leftHere;
                    }
                }
                if (chosen == null) {
                    break;
                }
                cuts.add(chosen);
                left = leftThen;
                stock[chosen.sheet]--;
            }
            return cuts.size();
        }

        int[] counts() {
            int[] counts = new int[parts.size()];
            for (int p = 0; p < counts.length; p++) {
                counts[p] = parts.get(p)[2];
            }
            return counts;
        }

        Cut cutOf(int sheet, int[] leftHere, Map<String, Tree> known) {
            int[] s = sheets.get(sheet);
            Tree way0 = best(s[0], s[1], 0, stages, left, known);
            Tree way1 = best(s[0], s[1], 1, stages, left, known);
            Cut cut = new Cut();
            cut.sheet = sheet;
            cut.way = way1.isBetterThan(way0) ? 1 : 0;
            cut.tree = cut.way == 1 ? way1 : way0;
            place(cut, cut.tree, new int[] {0, 0, s[0], s[1]}, cut.way, leftHere);
            return cut;
        }

        Tree best(int w, int h, int way, int s, int[] wanted, Map<String, Tree> known) {
            String key = w + "," + h + "," + way + "," + s;
            Tree best = known.get(key);
            if (best != null) {
                return best;
            }
            best = new Tree();
            for (int p = 0; p < parts.size(); p++) {
                int[] part = parts.get(p);
                boolean fits = part[0] == w && part[1] == h || part[3] == 1 && part[0] == h && part[1] == w;
                if (wanted[p] > 0 && fits) {
                    Tree tree = new Tree();
                    tree.part = p;
                    tree.value = w * h;
                    best = tree.isBetterThan(best) ? tree : best;
                }
            }
            int length = way == 0 ? w : h;
            for (int c = 1; s > 0 && c < length; c++) {
                Tree tree = new Tree();
                tree.c = c;
                int second = length - c - kerf;
                tree.first = way == 0 ? best(c, h, 1, s - 1, wanted, known) : best(w, c, 0, s - 1, wanted, known);
                tree.value = tree.first.value;
                tree.cuts = tree.first.cuts + 1;
                if (second > 0) {
                    tree.second = way == 0 ? best(second, h, 0, s, wanted, known)
                            : best(w, second, 1, s, wanted, known);
                    tree.value += tree.second.value;
                    tree.cuts += tree.second.cuts;
                }
                best = tree.isBetterThan(best) ? tree : best;
            }
            known.put(key, best);
            return best;
        }

        void place(Cut cut, Tree tree, int[] box, int way, int[] leftHere) {
            if (tree.c > 0) {
                cut.minutes += box[3 - way];
                int[] first = box.clone();
                first[2 + way] = tree.c;
                place(cut, tree.first, first, 1 - way, leftHere);
                if (tree.second != null) {
                    int[] second = box.clone();
                    second[way] += tree.c + kerf;
                    second[2 + way] -= tree.c + kerf;
                    place(cut, tree.second, second, way, leftHere);
                }
            } else if (tree.part >= 0) {
                if (leftHere[tree.part] > 0) {
                    leftHere[tree.part]--;
                    cut.area += box[2] * box[3];
                    cut.taken.add(new int[] {tree.part, box[0], box[1], box[2], box[3]});
                }
            } else if (box[2] >= least && box[3] >= least) {
                cut.rests.add(box);
            }
        }

        Cut cutSheet(int sheet) {
            needRun();
            if (sheet < 0 || sheet >= cuts.size()) {
                throw new IndexOutOfBoundsException();
            }
            return cuts.get(sheet);
        }

        long cut(int sheet, int what) {
            Cut cut = cutSheet(sheet);
            int alike = 0;
            while (cuts.get(alike).sheet != cut.sheet || cuts.get(alike).way != cut.way
                    || !cuts.get(alike).tree.text().equals(cut.tree.text())) {
                alike++;
            }
            return of(new int[] {cut.sheet, cut.taken.size(), cut.area, cut.tree.cuts, cut.way, cut.minutes,
                cut.rests.size(), alike}, what);
        }

        long taken(int sheet, int k, int what) {
            return of(of(cutSheet(sheet).taken, k), what);
        }

        long rest(int sheet, int k, int what) {
            return of(of(cutSheet(sheet).rests, k), what);
        }

        long left(int part) {
            needRun();
            return of(left, part);
        }

        long all(int what) {
            needRun();
            int[] sums = new int[3];
            for (Cut cut : cuts) {
                sums[0] += sheets.get(cut.sheet)[2];
                sums[1] += sheets.get(cut.sheet)[0] * sheets.get(cut.sheet)[1];
                sums[2] += cut.area;
            }
            return of(sums, what);
        }

        long bound() {
            int largest = 0;
            int area = 0;
            for (int[] sheet : sheets) {
                largest = Math.max(largest, sheet[0] * sheet[1]);
            }
            for (int[] part : parts) {
                area += part[0] * part[1] * part[2];
            }
            return largest == 0 ? 0 : area / largest + (area % largest == 0 ? 0 : 1);
        }

        void needRun() {
            if (!ran) {
                throw new IllegalStateException();
            }
        }

        static boolean side(int length) {
            return length >= 1 && length <= 16;
        }

        static int of(int[] row, int place) {
            if (place < 0 || place >= row.length) {
                throw new IndexOutOfBoundsException();
            }
            return row[place];
        }

        static int[] of(List<int[]> rows, int place) {
            if (place < 0 || place >= rows.size()) {
                throw new IndexOutOfBoundsException();
            }
            return rows.get(place);
        }
    }
}
