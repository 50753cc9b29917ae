/** One method for each promise of the document: ordinary inputs, the edges it names, wrong inputs. */
public final class StepGraphPromises {
    private static final int ARGUMENT = -101;
    private static final int STATE = -102;
    private static final int OTHER = -103;
    private static final int SECONDS_AT_MOST = 120;
    private static final int[] NO_VERTEX_OF_THREE = {-1, 3, 12, Integer.MIN_VALUE, Integer.MAX_VALUE};

    private static int wrong = 0;
    private static volatile String promise = "";

    public static void main(String[] args) {
        failIfStillRunning();
        newObject();
        size();
        sizeEndsRun();
        edge();
        edgeLimit();
        edgeEndsRun();
        parts();
        partsEndsRun();
        begin();
        beginWrong();
        beginAnew();
        step();
        stepWrong();
        finish();
        over();
        valueOfDistances();
        valueOfGroups();
        valueOfLevels();
        valueOfWidths();
        valueWrong();
        sum();
        steps();
        sent();
        delivered();
        crossed();
        pending();
        pendingOfWidths();
        pendingWrong();
        degree();
        largest();
        System.out.println(wrong == 0 ? "all answers are as due" : wrong + " answers are not as due");
        if (wrong != 0) {
            System.exit(1);
        }
    }

    // A call that does not end is a fault like any other, and must not keep the tests from ending.
    private static void failIfStillRunning() {
        Thread watch = new Thread(() -> {
            try {
                Thread.sleep(SECONDS_AT_MOST * 1000L);
            } catch (InterruptedException e) {
                return;
            }
            System.out.println("no end after " + SECONDS_AT_MOST + " seconds in promise " + promise);
            Runtime.getRuntime().halt(1);
        });
        watch.setDaemon(true);
        watch.start();
    }

    private static void newObject() {
        promise = "1 a new object";
        StepGraph x = new StepGraph();
        due("degree(0)", x.degree(0), 0);
        due("degree(1)", x.degree(1), -1);
        noRun(x);
        due("begin(1, 1)", begin(x, 1, 1), ARGUMENT);
        due("begin(1, 0)", begin(x, 1, 0), 0);
        due("pending(0, 0)", x.pending(0, 0), -1);
        due("value(0)", x.value(0), 0);
        due("value(1)", x.value(1), -1);
        StepGraph y = new StepGraph();
        noRun(y);
    }

    private static void size() {
        promise = "2 size";
        StepGraph x = new StepGraph();
        for (int n : new int[] {1, 2, 11, 12, 1}) {
            due("size(" + n + ")", x.size(n), true);
            due("degree(" + (n - 1) + ")", x.degree(n - 1), 0);
            due("degree(" + n + ")", x.degree(n), -1);
        }
        x.size(5);
        x.edge(0, 4, 1.0);
        for (int n : new int[] {0, 13, -1, Integer.MIN_VALUE, Integer.MAX_VALUE}) {
            due("size(" + n + ")", x.size(n), false);
            due("degree(4)", x.degree(4), 1);
            due("degree(5)", x.degree(5), -1);
        }
        due("size(5)", x.size(5), true);
        due("degree(4)", x.degree(4), 0);
        due("degree(0)", x.degree(0), 0);
    }

    private static void sizeEndsRun() {
        promise = "2 size ends the run";
        StepGraph x = path();
        begin(x, 0, 0);
        due("size(13)", x.size(13), false);
        due("steps()", x.steps(), 1);
        due("pending(1, 0)", x.pending(1, 0), 0.5);
        due("size(3)", x.size(3), true);
        noRun(x);
        x.parts(2);
        x.size(2);
        x.edge(0, 1, 1.0);
        begin(x, 0, 0);
        due("crossed() with the parts kept", x.crossed(), 1);
    }

    private static void edge() {
        promise = "3 edge";
        StepGraph x = new StepGraph();
        x.size(3);
        due("edge(0, 1, 0.0)", x.edge(0, 1, 0.0), true);
        due("edge(1, 0, 1000000.0)", x.edge(1, 0, 1000000.0), true);
        due("edge(0, 1, -0.0)", x.edge(0, 1, -0.0), true);
        due("edge(2, 1, Double.MIN_VALUE)", x.edge(2, 1, Double.MIN_VALUE), true);
        due("degree(1)", x.degree(1), 4);
        for (int v : NO_VERTEX_OF_THREE) {
            due("edge(" + v + ", 0, 1.0)", x.edge(v, 0, 1.0), false);
            due("edge(0, " + v + ", 1.0)", x.edge(0, v, 1.0), false);
            due("edge(" + v + ", " + v + ", 1.0)", x.edge(v, v, 1.0), false);
        }
        double[] noWeights = {-0.5, -Double.MIN_VALUE, Math.nextUp(1000000.0), 1000001.0, Double.NaN,
            Double.POSITIVE_INFINITY, Double.NEGATIVE_INFINITY, Double.MAX_VALUE, -Double.MAX_VALUE};
        for (double w : noWeights) {
            due("edge(0, 1, " + w + ")", x.edge(0, 1, w), false);
        }
        for (int v = 0; v < 3; v++) {
            due("edge(" + v + ", " + v + ", 1.0)", x.edge(v, v, 1.0), false);
        }
        due("degree(0)", x.degree(0), 3);
        due("degree(1)", x.degree(1), 4);
        due("degree(2)", x.degree(2), 1);
    }

    private static void edgeLimit() {
        promise = "3 edge, 30 at most";
        StepGraph x = new StepGraph();
        x.size(12);
        for (int i = 0; i < 30; i++) {
            due("edge " + (i + 1), x.edge(i % 11, 11, i), true);
        }
        begin(x, 1, 0);
        due("edge 31", x.edge(0, 1, 1.0), false);
        due("degree(11)", x.degree(11), 30);
        due("steps()", x.steps(), 1);
        due("sent()", x.sent(), 60);
        due("size(12)", x.size(12), true);
        due("edge after size", x.edge(0, 1, 1.0), true);
        due("degree(11)", x.degree(11), 0);
    }

    private static void edgeEndsRun() {
        promise = "3 edge ends the run";
        StepGraph x = path();
        begin(x, 0, 0);
        due("edge(0, 0, 1.0)", x.edge(0, 0, 1.0), false);
        due("steps()", x.steps(), 1);
        due("pending(1, 0)", x.pending(1, 0), 0.5);
        due("edge(0, 2, 1.0)", x.edge(0, 2, 1.0), true);
        noRun(x);
        due("begin(0, 0)", begin(x, 0, 0), 2);
    }

    private static void parts() {
        promise = "4 parts";
        for (int k = 1; k <= 4; k++) {
            StepGraph x = new StepGraph();
            x.size(5);
            for (int v = 0; v < 4; v++) {
                x.edge(v, 4, 1.0);
            }
            due("parts(" + k + ")", x.parts(k), true);
            for (int no : new int[] {0, 5, -1, Integer.MIN_VALUE, Integer.MAX_VALUE}) {
                due("parts(" + no + ")", x.parts(no), false);
            }
            due("begin(1, 0) with " + k + " parts", begin(x, 1, 0), k + 4);
            for (int p = 0; p < 6; p++) {
                due("pending(4, " + p + ") with " + k + " parts", x.pending(4, p), p < k ? p : -1);
            }
            due("degree(4)", x.degree(4), 4);
        }
    }

    private static void partsEndsRun() {
        promise = "4 parts ends the run";
        StepGraph x = path();
        begin(x, 0, 0);
        due("parts(5)", x.parts(5), false);
        due("steps()", x.steps(), 1);
        due("pending(1, 0)", x.pending(1, 0), 0.5);
        due("parts(1)", x.parts(1), true);
        noRun(x);
        due("degree(1)", x.degree(1), 2);
    }

    private static void begin() {
        promise = "5 begin";
        StepGraph x = path();
        due("begin(0, 0)", begin(x, 0, 0), 1);
        due("begin(0, 1)", begin(x, 0, 1), 2);
        due("begin(1, 2)", begin(x, 1, 2), 3);
        due("begin(2, 2)", begin(x, 2, 2), 1);
        due("begin(3, 1)", begin(x, 3, 1), 2);
        x.edge(0, 1, 0.25);
        due("begin(0, 0), two edges to one vertex", begin(x, 0, 0), 1);
        due("sent()", x.sent(), 2);
        due("pending(1, 0)", x.pending(1, 0), 0.25);
        x.size(2);
        due("begin(0, 1), no edge", begin(x, 0, 1), 0);
        due("over()", x.over(), true);
    }

    private static void beginWrong() {
        promise = "5 begin, wrong inputs";
        StepGraph x = path();
        for (int program : new int[] {-1, 4, Integer.MIN_VALUE, Integer.MAX_VALUE}) {
            due("begin(" + program + ", 0)", begin(x, program, 0), ARGUMENT);
        }
        for (int source : NO_VERTEX_OF_THREE) {
            for (int program = -1; program <= 4; program++) {
                due("begin(" + program + ", " + source + ")", begin(x, program, source), ARGUMENT);
            }
        }
        noRun(x);
        begin(x, 3, 0);
        step(x);
        due("begin(4, 1)", begin(x, 4, 1), ARGUMENT);
        due("begin(0, 3)", begin(x, 0, 3), ARGUMENT);
        due("steps()", x.steps(), 2);
        due("sent()", x.sent(), 3);
        due("value(0)", x.value(0), 1000000);
        due("pending(2, 0)", x.pending(2, 0), 0.25);
        due("finish(9)", finish(x, 9), 2);
        due("value(2)", x.value(2), 0.25);
    }

    private static void beginAnew() {
        promise = "5 begin, a second run";
        StepGraph x = path();
        begin(x, 1, 0);
        finish(x, 9);
        due("begin(0, 2)", begin(x, 0, 2), 1);
        due("steps()", x.steps(), 1);
        due("sent()", x.sent(), 1);
        due("delivered()", x.delivered(), 1);
        due("crossed()", x.crossed(), 0);
        due("value(0)", x.value(0), -1);
        due("value(2)", x.value(2), 0);
        due("pending(0, 0)", x.pending(0, 0), -1);
        due("pending(1, 0)", x.pending(1, 0), 0.25);
        due("over()", x.over(), false);
    }

    private static void step() {
        promise = "6 step";
        StepGraph x = path();
        begin(x, 0, 0);
        due("step() 1", step(x), 1);
        due("value(1)", x.value(1), 0.5);
        due("value(2)", x.value(2), -1);
        due("step() 2", step(x), 2);
        due("value(2)", x.value(2), 0.75);
        due("pending(0, 0)", x.pending(0, 0), -1);
        due("step() 3", step(x), 1);
        due("over()", x.over(), true);
        x.edge(0, 2, 0.5);
        x.parts(3);
        begin(x, 1, 0);
        due("step(), all active, two messages each", step(x), 3);
        due("value(1)", x.value(1), 0);
        due("value(2)", x.value(2), 0);
        due("equal is not better: step()", step(x), 3);
        due("over()", x.over(), true);
        due("sent()", x.sent(), 10);
    }

    private static void stepWrong() {
        promise = "6 step, wrong state";
        StepGraph x = path();
        due("step() without a run", step(x), STATE);
        noRun(x);
        begin(x, 0, 0);
        finish(x, 9);
        due("step() of a run that is over", step(x), STATE);
        due("steps()", x.steps(), 4);
        due("sent()", x.sent(), 4);
        due("sum()", x.sum(), 1.25);
        x.size(1);
        begin(x, 0, 0);
        due("step() of a run over at once", step(x), STATE);
        due("steps()", x.steps(), 1);
    }

    private static void finish() {
        promise = "7 finish";
        StepGraph x = path();
        for (int n : new int[] {-1, 0, 1, 5, Integer.MIN_VALUE, Integer.MAX_VALUE}) {
            due("finish(" + n + ") without a run", finish(x, n), STATE);
        }
        begin(x, 0, 0);
        for (int n : new int[] {0, -1, Integer.MIN_VALUE}) {
            due("finish(" + n + ")", finish(x, n), 0);
            due("steps()", x.steps(), 1);
        }
        due("finish(1)", finish(x, 1), 1);
        due("value(1)", x.value(1), 0.5);
        due("steps()", x.steps(), 2);
        due("finish(2)", finish(x, 2), 2);
        due("over()", x.over(), true);
        due("finish(2) when over", finish(x, 2), 0);
        due("steps()", x.steps(), 4);
        begin(x, 0, 0);
        due("finish(MAX)", finish(x, Integer.MAX_VALUE), 3);
        due("value(2)", x.value(2), 0.75);
    }

    private static void over() {
        promise = "8 over";
        StepGraph x = path();
        due("over() without a run", x.over(), false);
        begin(x, 2, 0);
        due("over() behind begin", x.over(), false);
        finish(x, 2);
        due("over() behind step 2", x.over(), false);
        step(x);
        due("over() behind step 3", x.over(), true);
        begin(x, 2, 0);
        due("over() of a new run", x.over(), false);
        finish(x, 9);
        x.parts(2);
        due("over() when ended", x.over(), false);
    }

    private static void valueOfDistances() {
        promise = "9 value, distances";
        StepGraph x = new StepGraph();
        x.size(5);
        x.edge(0, 1, 10.0);
        x.edge(0, 2, 1.0);
        x.edge(2, 3, 1.5);
        x.edge(1, 3, 0.0);
        begin(x, 0, 0);
        step(x);
        due("value(1)", x.value(1), 10);
        finish(x, 99);
        due("value(0)", x.value(0), 0);
        due("value(1)", x.value(1), 2.5);
        due("value(2)", x.value(2), 1);
        due("value(3)", x.value(3), 2.5);
        due("value(4)", x.value(4), -1);
    }

    private static void valueOfGroups() {
        promise = "9 value, groups";
        StepGraph x = new StepGraph();
        x.size(6);
        x.edge(5, 3, 7.0);
        x.edge(3, 4, 7.0);
        x.edge(1, 2, 7.0);
        begin(x, 1, 5);
        for (int v = 0; v < 6; v++) {
            due("value(" + v + ") at first", x.value(v), v);
        }
        finish(x, 99);
        int[] groups = {0, 1, 1, 3, 3, 3};
        for (int v = 0; v < 6; v++) {
            due("value(" + v + ")", x.value(v), groups[v]);
        }
    }

    private static void valueOfLevels() {
        promise = "9 value, levels";
        StepGraph x = path();
        begin(x, 2, 2);
        finish(x, 99);
        due("value(0)", x.value(0), 2);
        due("value(1)", x.value(1), 1);
        due("value(2)", x.value(2), 0);
    }

    private static void valueOfWidths() {
        promise = "9 value, widths";
        StepGraph x = new StepGraph();
        x.size(6);
        x.edge(0, 1, 2.0);
        x.edge(0, 2, 1000000.0);
        x.edge(2, 1, 5.5);
        x.edge(1, 3, -0.0);
        x.edge(1, 4, 9.0);
        begin(x, 3, 0);
        step(x);
        due("value(1)", x.value(1), 2);
        due("equal is not better: finish(99)", finish(x, 99), 3);
        due("value(0)", x.value(0), 1000000);
        due("value(1)", x.value(1), 5.5);
        due("value(2)", x.value(2), 1000000);
        due("value(3)", x.value(3), 0);
        due("1 / value(3), as -0.0 counts as 0", 1 / x.value(3), Double.POSITIVE_INFINITY);
        due("value(4), behind a narrower edge", x.value(4), 5.5);
        due("value(5)", x.value(5), -1);
    }

    private static void valueWrong() {
        promise = "9 value, wrong inputs";
        StepGraph x = path();
        due("value(0) without a run", x.value(0), -1);
        begin(x, 1, 0);
        for (int v : NO_VERTEX_OF_THREE) {
            due("value(" + v + ")", x.value(v), -1);
        }
    }

    private static void sum() {
        promise = "10 sum";
        StepGraph x = path();
        due("sum() without a run", x.sum(), 0);
        begin(x, 0, 1);
        due("sum() with one value", x.sum(), 0);
        finish(x, 9);
        due("sum()", x.sum(), 0.75);
        x.parts(1);
        due("sum() when ended", x.sum(), 0);
        begin(x, 1, 0);
        due("sum() of groups", x.sum(), 3);
        begin(x, 3, 0);
        due("sum() of widths", x.sum(), 1000000);
        x.size(4);
        x.edge(0, 1, 0.1);
        x.edge(0, 2, 0.2);
        x.edge(0, 3, 0.3);
        begin(x, 0, 0);
        finish(x, 9);
        due("sum(), vertex 0 first", x.sum(), 0.1 + 0.2 + 0.3);
        due("another order tells", 0.3 + 0.2 + 0.1 != 0.1 + 0.2 + 0.3, true);
    }

    private static void steps() {
        promise = "11 steps";
        StepGraph x = path();
        due("steps() without a run", x.steps(), 0);
        begin(x, 0, 0);
        due("steps() behind begin", x.steps(), 1);
        step(x);
        due("steps() behind step", x.steps(), 2);
        finish(x, 9);
        due("steps() behind finish", x.steps(), 4);
        x.parts(1);
        due("steps() when ended", x.steps(), 0);
    }

    private static void sent() {
        promise = "12 sent";
        StepGraph x = path();
        due("sent() without a run", x.sent(), 0);
        begin(x, 0, 0);
        due("sent() behind begin", x.sent(), 1);
        step(x);
        due("sent() behind step 1", x.sent(), 3);
        step(x);
        due("sent() behind step 2", x.sent(), 4);
        step(x);
        due("sent() behind step 3", x.sent(), 4);
        begin(x, 1, 0);
        due("sent() of groups", x.sent(), 4);
        x.parts(1);
        due("sent() when ended", x.sent(), 0);
    }

    private static void delivered() {
        promise = "13 delivered";
        StepGraph x = star();
        due("delivered() without a run", x.delivered(), 0);
        begin(x, 1, 0);
        due("delivered() behind begin", x.delivered(), 5);
        due("sent() behind begin", x.sent(), 6);
        step(x);
        due("delivered() behind step 1", x.delivered(), 8);
        step(x);
        due("delivered() behind step 2", x.delivered(), 10);
        step(x);
        due("delivered() behind step 3", x.delivered(), 10);
        x.parts(2);
        due("delivered() when ended", x.delivered(), 0);
    }

    private static void crossed() {
        promise = "14 crossed";
        StepGraph x = star();
        due("crossed() without a run", x.crossed(), 0);
        begin(x, 1, 0);
        due("crossed() behind begin", x.crossed(), 3);
        finish(x, 9);
        due("crossed() when over", x.crossed(), 6);
        x.parts(1);
        due("crossed() when ended", x.crossed(), 0);
        begin(x, 1, 0);
        finish(x, 9);
        due("crossed() with one part", x.crossed(), 0);
        due("delivered() with one part", x.delivered(), 8);
    }

    private static void pending() {
        promise = "15 pending";
        StepGraph x = star();
        due("pending(0, 0) without a run", x.pending(0, 0), -1);
        begin(x, 1, 0);
        due("pending(3, 0), the best of two", x.pending(3, 0), 0);
        due("pending(3, 1)", x.pending(3, 1), 1);
        due("pending(0, 1)", x.pending(0, 1), 3);
        due("pending(0, 0)", x.pending(0, 0), -1);
        step(x);
        due("pending(3, 0) behind step 1", x.pending(3, 0), -1);
        due("pending(0, 1) behind step 1", x.pending(0, 1), 0);
        finish(x, 9);
        for (int v = 0; v < 4; v++) {
            due("pending(" + v + ", 0) when over", x.pending(v, 0), -1);
            due("pending(" + v + ", 1) when over", x.pending(v, 1), -1);
        }
        begin(x, 1, 0);
        x.parts(2);
        due("pending(3, 0) when ended", x.pending(3, 0), -1);
    }

    private static void pendingOfWidths() {
        promise = "15 pending, widths";
        StepGraph x = new StepGraph();
        x.size(2);
        x.edge(0, 1, 0.0);
        begin(x, 3, 1);
        due("pending(0, 0) of weight 0", x.pending(0, 0), 0);
        x.edge(0, 1, 4.5);
        x.edge(1, 0, 3.5);
        begin(x, 3, 1);
        due("pending(0, 0), the greatest of three", x.pending(0, 0), 4.5);
        begin(x, 0, 1);
        due("pending(0, 0), the least of three", x.pending(0, 0), 0);
        begin(x, 2, 1);
        due("pending(0, 0) of levels", x.pending(0, 0), 1);
    }

    private static void pendingWrong() {
        promise = "15 pending, wrong inputs";
        StepGraph x = star();
        begin(x, 1, 0);
        for (int v : new int[] {-1, 4, 12, Integer.MIN_VALUE, Integer.MAX_VALUE}) {
            due("pending(" + v + ", 0)", x.pending(v, 0), -1);
        }
        for (int p : new int[] {-1, 2, 3, 4, Integer.MIN_VALUE, Integer.MAX_VALUE}) {
            due("pending(3, " + p + ")", x.pending(3, p), -1);
        }
    }

    private static void degree() {
        promise = "16 degree";
        StepGraph x = path();
        due("degree(0)", x.degree(0), 1);
        due("degree(1)", x.degree(1), 2);
        due("degree(2)", x.degree(2), 1);
        x.edge(2, 1, 9.0);
        due("degree(1), two edges to one vertex", x.degree(1), 3);
        due("degree(2), two edges to one vertex", x.degree(2), 2);
        x.edge(1, 1, 9.0);
        due("degree(1), an edge refused", x.degree(1), 3);
        for (int v : NO_VERTEX_OF_THREE) {
            due("degree(" + v + ")", x.degree(v), -1);
        }
        begin(x, 1, 0);
        due("degree(1) in a run", x.degree(1), 3);
    }

    private static void largest() {
        promise = "the largest graph";
        StepGraph x = new StepGraph();
        x.size(12);
        x.parts(4);
        for (int v = 0; v < 11; v++) {
            x.edge(v, v + 1, 1000000.0);
        }
        due("begin(0, 11)", begin(x, 0, 11), 1);
        due("finish(100)", finish(x, 100), 12);
        due("value(0)", x.value(0), 11000000);
        due("sum()", x.sum(), 66000000);
        due("sent()", x.sent(), 22);
        due("crossed()", x.crossed(), 22);
        begin(x, 3, 0);
        finish(x, 100);
        due("value(11)", x.value(11), 1000000);
        due("sum()", x.sum(), 12000000);
    }

    // 0 - 1 with weight 0.5 and 1 - 2 with weight 0.25, one part.
    private static StepGraph path() {
        StepGraph x = new StepGraph();
        x.size(3);
        x.edge(0, 1, 0.5);
        x.edge(1, 2, 0.25);
        return x;
    }

    // Vertex 3 joined with 0, 1 and 2, two parts: 0 and 2 in part 0, 1 and 3 in part 1.
    private static StepGraph star() {
        StepGraph x = new StepGraph();
        x.size(4);
        x.parts(2);
        x.edge(0, 3, 1.0);
        x.edge(1, 3, 1.0);
        x.edge(3, 2, 1.0);
        return x;
    }

    private static void noRun(StepGraph x) {
        due("over() without a run", x.over(), false);
        due("steps() without a run", x.steps(), 0);
        due("sent() without a run", x.sent(), 0);
        due("delivered() without a run", x.delivered(), 0);
        due("crossed() without a run", x.crossed(), 0);
        due("sum() without a run", x.sum(), 0);
        for (int v = -1; v <= 12; v++) {
            due("value(" + v + ") without a run", x.value(v), -1);
            for (int p = -1; p <= 4; p++) {
                due("pending(" + v + ", " + p + ") without a run", x.pending(v, p), -1);
            }
        }
        due("step() without a run", step(x), STATE);
        due("finish(1) without a run", finish(x, 1), STATE);
    }

    private static int begin(StepGraph x, int program, int source) {
        try {
            return x.begin(program, source);
        } catch (RuntimeException e) {
            return kindOf(e);
        }
    }

    private static int step(StepGraph x) {
        try {
            return x.step();
        } catch (RuntimeException e) {
            return kindOf(e);
        }
    }

    private static int finish(StepGraph x, int n) {
        try {
            return x.finish(n);
        } catch (RuntimeException e) {
            return kindOf(e);
        }
    }

    private static int kindOf(RuntimeException e) {
        if (e.getClass() == IllegalArgumentException.class) {
            return ARGUMENT;
        }
        return e.getClass() == IllegalStateException.class ? STATE : OTHER;
    }

    private static void due(String call, boolean got, boolean want) {
        due(call, got ? 1 : 0, want ? 1 : 0);
    }

    private static void due(String call, double got, double want) {
        if (Double.compare(got, want) != 0) {
            wrong++;
            System.out.println("promise " + promise + ": " + call + " answered " + got + ", due is " + want);
        }
    }
}
