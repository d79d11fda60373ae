/**
 * Plays runs of calls on new objects. Each row of a run is a call with what is due:
 *
 * <pre>
 *   new 0 1 1                            a new object, on which the rows that follow call
 *   part 4 3 2 true = 0                  an answer
 *   sheet 17 1 1 1 ! IllegalArgument     an exception, without the end of its name
 *   cut 0 * = 0 2 24                     the last number goes from 0 up: cut 0 0, cut 0 1, cut 0 2
 * </pre>
 *
 * The words min and max stand for the least and the greatest int.
 */
final class Edge {
    private static final int MOST_CALLS = 512;

    private static int tests = 0;
    private static int rows = 0;
    private static int failed = 0;

    private final String name;
    private SheetTrees object = null;
    private int calls = 0;
    private boolean holds = true;

    private Edge(String name) {
        this.name = name;
    }

    static void test(String name, String run) {
        Edge edge = new Edge(name);
        for (String row : run.strip().split("\\s*\n\\s*")) {
            edge.play(row);
        }
        tests++;
        failed += edge.holds ? 0 : 1;
    }

    static void finish() {
        System.out.println(tests + " edges, " + rows + " answers, " + failed + " edges do not hold");
        if (failed != 0 || tests == 0) {
            System.exit(1);
        }
    }

    private void play(String row) {
        String[] sides = row.split(" [=!] ");
        String[] words = sides[0].split(" ");
        if (words[0].equals("new")) {
            object = new SheetTrees(number(words[1]), number(words[2]), number(words[3]));
            calls = 0;
            return;
        }
        if (sides.length != 2) {
            throw new IllegalStateException("a row without what is due: " + row);
        }
        if (row.contains(" ! ")) {
            ask(words, "throws." + sides[1] + "Exception");
            return;
        }
        String[] due = sides[1].split(" ");
        boolean goesUp = words[words.length - 1].equals("*");
        if (!goesUp && due.length != 1) {
            throw new IllegalStateException("a row with too much that is due: " + row);
        }
        for (int i = 0; i < due.length; i++) {
            if (goesUp) {
                words[words.length - 1] = Integer.toString(i);
            }
            ask(words, due[i]);
        }
    }

    /** An object answers 512 calls and no more, so no test may lean on a later one. */
    private void ask(String[] words, String due) {
        calls++;
        if (calls > MOST_CALLS) {
            throw new IllegalStateException("more than 512 calls: " + name);
        }
        String got = outcome(words);
        rows++;
        if (!got.equals(due)) {
            holds = false;
            System.out.println(name + ": " + String.join(" ", words) + " answered " + got + ", due is " + due);
        }
    }

    private String outcome(String[] words) {
        int[] a = new int[words.length - 1];
        for (int i = 0; i < a.length; i++) {
            a[i] = number(words[i + 1]);
        }
        return Answer.of(() -> call(words[0], a));
    }

    private long call(String call, int[] a) {
        switch (call) {
            case "sheet": return object.sheet(a[0], a[1], a[2], a[3]);
            case "part": return object.part(a[0], a[1], a[2], a[3] == 1);
            case "count": return object.count(a[0], a[1]);
            case "worth": return object.worth(a[0], a[1], a[2], a[3]);
            case "run": return object.run();
            case "cut": return object.cut(a[0], a[1]);
            case "taken": return object.taken(a[0], a[1], a[2]);
            case "rest": return object.rest(a[0], a[1], a[2]);
            case "left": return object.left(a[0]);
            case "all": return object.all(a[0]);
            case "bound": return object.bound();
            default: throw new UnsupportedOperationException(call);
        }
    }

    private static int number(String word) {
        switch (word) {
            case "min": return Integer.MIN_VALUE;
            case "max": return Integer.MAX_VALUE;
            case "true": return 1;
            case "false": return 0;
            default: return Integer.parseInt(word);
        }
    }
}
