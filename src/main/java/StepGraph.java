/**
 * A graph whose vertices work out something together in steps: in each step those that have
 * messages look at them, and may send new ones along their edges, which come in the next step.
 */
public final class StepGraph {
    private static final int MAX_VERTICES = 12;
    private static final int MAX_EDGES = 30;
    private static final int MAX_PARTS = 4;
    private static final int MAX_WEIGHT = 1000000;

    private static final int DISTANCES = 0;
    private static final int GROUPS = 1;
    private static final int LEVELS = 2;
    private static final int WIDTHS = 3;

    // No value and no message is ever below 0, so this stands for "none" among them,
    // and it is also what the document wants answered there.
    private static final int NONE = -1;

    private final int[] firstEnds = new int[MAX_EDGES];
    private final int[] secondEnds = new int[MAX_EDGES];
    private final double[] weights = new double[MAX_EDGES];
    private int vertexCount = 1;
    private int edgeCount = 0;
    private int partCount = 1;

    private final double[] values = new double[MAX_VERTICES];
    private final boolean[] sends = new boolean[MAX_VERTICES];
    private final double[][] waiting = new double[MAX_VERTICES][MAX_PARTS];
    private boolean running = false;
    private int runProgram = DISTANCES;
    private int waitingCount = 0;
    private int stepCount = 0;
    private int sentCount = 0;
    private int deliveredCount = 0;
    private int crossedCount = 0;

    public StepGraph() {
    }

    public boolean size(int n) {
        if (n < 1 || n > MAX_VERTICES) {
            return false;
        }
        vertexCount = n;
        edgeCount = 0;
        endRun();
        return true;
    }

    public boolean edge(int a, int b, double w) {
        if (!isVertex(a) || !isVertex(b) || a == b || !isWeight(w) || edgeCount >= MAX_EDGES) {
            return false;
        }
        firstEnds[edgeCount] = a;
        secondEnds[edgeCount] = b;
        // -0.0 counts as 0 and must not come out again as a width.
        weights[edgeCount] = w > 0 ? w : 0;
        edgeCount++;
        endRun();
        return true;
    }

    public boolean parts(int k) {
        if (k < 1 || k > MAX_PARTS) {
            return false;
        }
        partCount = k;
        endRun();
        return true;
    }

    public int begin(int program, int source) throws IllegalArgumentException {
        if (program < DISTANCES || program > WIDTHS) {
            throw new IllegalArgumentException("no such program");
        }
        if (!isVertex(source)) {
            throw new IllegalArgumentException("no such vertex");
        }
        endRun();
        running = true;
        runProgram = program;
        for (int v = 0; v < vertexCount; v++) {
            values[v] = firstValue(v, source);
            sends[v] = values[v] != NONE;
        }
        endStep();
        return waitingCount;
    }

    public int step() throws IllegalStateException {
        if (!running) {
            throw new IllegalStateException("no run");
        }
        if (waitingCount == 0) {
            throw new IllegalStateException("the run is over");
        }
        return doStep();
    }

    public int finish(int n) throws IllegalStateException {
        if (!running) {
            throw new IllegalStateException("no run");
        }
        int done = 0;
        while (done < n && waitingCount > 0) {
            doStep();
            done++;
        }
        return done;
    }

    public boolean over() {
        return running && waitingCount == 0;
    }

    public double value(int v) {
        return running && isVertex(v) ? values[v] : NONE;
    }

    public double sum() {
        double total = 0;
        if (running) {
            for (int v = 0; v < vertexCount; v++) {
                if (values[v] != NONE) {
                    total += values[v];
                }
            }
        }
        return total;
    }

    public int steps() {
        return stepCount;
    }

    public int sent() {
        return sentCount;
    }

    public int delivered() {
        return deliveredCount;
    }

    public int crossed() {
        return crossedCount;
    }

    public double pending(int v, int p) {
        return running && isVertex(v) && isPart(p) ? waiting[v][p] : NONE;
    }

    public int degree(int v) {
        if (!isVertex(v)) {
            return NONE;
        }
        int count = 0;
        for (int e = 0; e < edgeCount; e++) {
            if (firstEnds[e] == v || secondEnds[e] == v) {
                count++;
            }
        }
        return count;
    }

    private boolean isVertex(int v) {
        return v >= 0 && v < vertexCount;
    }

    private boolean isPart(int p) {
        return p >= 0 && p < partCount;
    }

    // Written so that a NaN is no weight.
    private static boolean isWeight(double w) {
        return w >= 0 && w <= MAX_WEIGHT;
    }

    // The only divisor: parts() keeps it from 1 to 4.
    private int partOf(int v) {
        return v % partCount;
    }

    // What values and waiting hold is left behind: it is told only while there is a run,
    // and begin() and endStep() write it anew before that.
    private void endRun() {
        running = false;
        waitingCount = 0;
        stepCount = 0;
        sentCount = 0;
        deliveredCount = 0;
        crossedCount = 0;
    }

    private double firstValue(int v, int source) {
        if (runProgram == GROUPS) {
            return v;
        }
        if (v != source) {
            return NONE;
        }
        return runProgram == WIDTHS ? MAX_WEIGHT : 0;
    }

    private double messageOf(double x, double w) {
        if (runProgram == DISTANCES) {
            return x + w;
        }
        if (runProgram == GROUPS) {
            return x;
        }
        if (runProgram == LEVELS) {
            return x + 1;
        }
        return x <= w ? x : w;
    }

    private boolean isBetter(double x, double y) {
        if (x == NONE) {
            return false;
        }
        if (y == NONE) {
            return true;
        }
        return runProgram == WIDTHS ? x > y : x < y;
    }

    private int doStep() {
        int active = 0;
        for (int v = 0; v < vertexCount; v++) {
            double best = bestWaiting(v);
            if (best != NONE) {
                active++;
            }
            sends[v] = isBetter(best, values[v]);
            if (sends[v]) {
                values[v] = best;
            }
        }
        endStep();
        return active;
    }

    private double bestWaiting(int v) {
        double best = NONE;
        for (int p = 0; p < partCount; p++) {
            if (isBetter(waiting[v][p], best)) {
                best = waiting[v][p];
            }
        }
        return best;
    }

    // All values of the step stand before the first message goes out, so one row of waiting
    // messages is enough: what was delivered is no longer needed here.
    private void endStep() {
        clearWaiting();
        for (int e = 0; e < edgeCount; e++) {
            sendAlong(firstEnds[e], secondEnds[e], weights[e]);
            sendAlong(secondEnds[e], firstEnds[e], weights[e]);
        }
        stepCount++;
    }

    private void clearWaiting() {
        for (int v = 0; v < vertexCount; v++) {
            for (int p = 0; p < partCount; p++) {
                waiting[v][p] = NONE;
            }
        }
        waitingCount = 0;
    }

    private void sendAlong(int from, int to, double w) {
        if (!sends[from]) {
            return;
        }
        sentCount++;
        int part = partOf(from);
        if (waiting[to][part] == NONE) {
            countDelivery(part, to);
        }
        double message = messageOf(values[from], w);
        if (isBetter(message, waiting[to][part])) {
            waiting[to][part] = message;
        }
    }

    private void countDelivery(int part, int to) {
        waitingCount++;
        deliveredCount++;
        if (partOf(to) != part) {
            crossedCount++;
        }
    }
}
