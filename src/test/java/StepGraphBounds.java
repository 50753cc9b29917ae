import java.util.ArrayList;
import java.util.List;
import java.util.function.Function;

/**
 * One method for each sentence of the document that names a boundary: the values on both sides of
 * it, and for each call that is refused or throws, in every kind of state, that it changes nothing.
 */
public final class StepGraphBounds {
    private static final String ARGUMENT = "throws.IllegalArgumentException";
    private static final String STATE = "throws.IllegalStateException";
    private static final int MIN = Integer.MIN_VALUE;
    private static final int MAX = Integer.MAX_VALUE;
    private static final double MOST = 1000000.0;
    private static final double NONE = -1.0;
    private static final int CALLS_OF_AN_OBJECT = 512;
    private static final int SECONDS_AT_MOST = 120;

    private static final double[] WEIGHTS = {0.0, -0.0, Double.MIN_VALUE, 0.5, 1.0, 999999.0, Math.nextDown(MOST), MOST};
    private static final double[] NO_WEIGHTS = {-Double.MIN_VALUE, -1.0, -MOST, -Double.MAX_VALUE,
        Double.NEGATIVE_INFINITY, Math.nextUp(MOST), 1000001.0, Double.MAX_VALUE, Double.POSITIVE_INFINITY, Double.NaN};
    private static final int[] NO_SIZES = {MIN, -12, -1, 0, 13, 14, MAX};
    private static final int[] NO_PARTS = {MIN, -4, -1, 0, 5, 6, MAX};
    private static final int[] NO_PROGRAMS = {MIN, -1, 4, 5, MAX};

    private static int wrong = 0;
    private static volatile String sentence = "";

    private record Call(String text, Function<StepGraph, Object> does) { }

    /** Calls that lead a new object to a state with n vertices. */
    private record State(String name, int n, List<Call> calls) { }

    /** A graph whose calls are counted: the document speaks of the first 512 alone. */
    private static final class Subject {
        private final StepGraph graph = new StepGraph();
        private int calls = 0;

        String answer(Call call) {
            calls++;
            if (calls > CALLS_OF_AN_OBJECT) {
                throw new IllegalStateException("this test makes too many calls on one object");
            }
            try {
                return String.valueOf(call.does.apply(graph));
            } catch (RuntimeException e) {
                return "throws." + e.getClass().getSimpleName();
            }
        }

        List<String> answers(List<Call> calls) {
            List<String> all = new ArrayList<>();
            for (Call call : calls) {
                all.add(call.text + " answered " + answer(call));
            }
            return all;
        }
    }

    public static void main(String[] args) {
        failIfStillRunning();
        terms();
        programs();
        runs();
        buildingPromises();
        runningPromises();
        lookingPromises();
        System.out.println(wrong == 0 ? "all answers are as due" : wrong + " answers are not as due");
        if (wrong != 0) {
            System.exit(1);
        }
    }

    // A call that does not end is a fault like any other, and must not keep the tests from ending.
    private static void failIfStillRunning() {
        Thread watch = new Thread(() -> {
            try {
                Thread.sleep(SECONDS_AT_MOST * 1000L);
            } catch (InterruptedException e) {
                return;
            }
            System.out.println("no end after " + SECONDS_AT_MOST + " seconds in \"" + sentence + "\"");
            Runtime.getRuntime().halt(1);
        });
        watch.setDaemon(true);
        watch.start();
    }

    private static void terms() {
        atMost512Calls();
        combinedBeforeDelivery();
        verticesOfEachSize();
        edgesInBothDirections();
        weightFromZeroToMillion();
        minusZeroIsZero();
        thirtyEdges();
        thirtyEdgesBetweenTwo();
        partsOfEachVertex();
    }

    private static void programs() {
        programsZeroToThree();
        anyIsBetterThanNone();
        equalIsNotBetter();
        firstValues();
        messagesOfDistances();
        messagesOfGroups();
        messagesOfLevels();
        messagesOfWidths();
    }

    private static void runs() {
        stepZero();
        laterSteps();
        combinedIntoTheBest();
        crossedIntoAnotherPart();
        overWhenNothingIsToBeDelivered();
        refusedChangesNothing();
        throwingChangesNothing();
        doneEndsTheRun();
        refusedDoesNotEndTheRun();
    }

    private static void buildingPromises() {
        newObject();
        sizeRefuses();
        sizeLeavesNoEdges();
        edgeRefusesNoVertex();
        edgeRefusesSameVertex();
        edgeRefusesWeight();
        edgeRefusesThirtyFirst();
        partsRefuses();
    }

    private static void runningPromises() {
        beginAnswersToBeDelivered();
        beginNoProgram();
        beginNoVertex();
        stepAnswersActive();
        stepWithoutRun();
        stepWhenOver();
        finishAtMost();
        finishBelowOne();
        finishWithoutRun();
        overNeedsRun();
    }

    private static void lookingPromises() {
        valueNone();
        sumOfThoseThatHaveOne();
        sumWithoutRun();
        stepsCountsStepZero();
        sentOfTheRun();
        deliveredOrToBe();
        crossedOfThese();
        pendingNothing();
        pendingNoVertexOrPart();
        degreeOfVertex();
    }

    // The head of the document and its terms.

    private static void atMost512Calls() {
        says("An object is used for at most 512 calls after it has been made");
        Subject x = made(size(2), edge(0, 1, 0.5), begin(0, 0), finish(9));
        while (x.calls < CALLS_OF_AN_OBJECT - 2) {
            due(x, begin(0, x.calls % 2), 1);
        }
        due(x, step(), 1);
        due(x, sum(), 0.5);
        due(x.calls == CALLS_OF_AN_OBJECT, "the last call was the 512th");
    }

    private static void combinedBeforeDelivery() {
        says("Messages from one part of the graph to one vertex are combined before they are delivered");
        Subject x = made(size(5), parts(2), begin(1, 0));
        due(x, delivered(), 0);
        x = made(size(5), parts(2), edge(0, 4, 1.0), begin(1, 0));
        due(x, delivered(), 2);
        x = made(size(5), parts(2), edge(0, 4, 1.0), edge(2, 4, 1.0), begin(1, 0));
        due(x, sent(), 4);
        due(x, delivered(), 3);
        x = made(size(5), parts(2), edge(0, 4, 1.0), edge(1, 4, 1.0), begin(1, 0));
        due(x, sent(), 4);
        due(x, delivered(), 4);
    }

    private static void verticesOfEachSize() {
        says("VERTICES are 0 .. n - 1, n from 1 to 12");
        for (int n = 1; n <= 12; n++) {
            Subject x = made(size(n), begin(1, n - 1));
            for (int v = 0; v < n; v++) {
                due(x, degree(v), 0);
                due(x, value(v), (double) v);
                due(x, begin(1, v), 0);
            }
            for (int v : noVertices(n)) {
                due(x, degree(v), -1);
                due(x, value(v), NONE);
                due(x, pending(v, 0), NONE);
                due(x, begin(1, v), ARGUMENT);
                due(x, edge(0, v, 1.0), false);
                due(x, edge(v, 0, 1.0), false);
            }
            due(x, edge(n - 1, 0, 1.0), n > 1);
        }
    }

    private static void edgesInBothDirections() {
        says("EDGES join two different vertices, in both directions");
        for (int v = 0; v < 2; v++) {
            Subject x = made(size(2), edge(v, 1 - v, 0.5));
            for (int source = 0; source < 2; source++) {
                due(x, begin(0, source), 1);
                due(x, pending(1 - source, 0), 0.5);
                due(x, pending(source, 0), NONE);
            }
            due(x, edge(v, v, 0.5), false);
        }
    }

    private static void weightFromZeroToMillion() {
        says("a WEIGHT, a double from 0 to 1000000");
        for (double w : WEIGHTS) {
            Subject x = made(size(2));
            due(x, edge(0, 1, w), true);
            due(x, begin(0, 0), 1);
            due(x, pending(1, 0), w + 0.0);
            due(x, begin(3, 1), 1);
            due(x, pending(0, 0), w + 0.0);
        }
        for (double w : NO_WEIGHTS) {
            Subject x = made(size(2));
            due(x, edge(0, 1, w), false);
            due(x, degree(0), 0);
            due(x, begin(0, 0), 0);
        }
    }

    // A -0.0 shows as such in a text, so these answers tell the two zeroes apart.
    private static void minusZeroIsZero() {
        says("-0.0 counts as 0");
        Subject x = made(size(3), edge(0, 1, -0.0), edge(1, 2, 7.0), begin(3, 0));
        due(x, pending(1, 0), 0.0);
        due(x, finish(9), 3);
        due(x, value(1), 0.0);
        due(x, value(2), 0.0);
        due(x, begin(0, 1), 2);
        due(x, pending(0, 0), 0.0);
        x = made(size(2), edge(0, 1, -0.0), edge(0, 1, 0.0), begin(3, 0), step());
        due(x, value(1), 0.0);
    }

    private static void thirtyEdges() {
        says("there are at most 30");
        Subject x = made(full(29));
        due(x, edge(0, 11, 1.0), true);
        due(x, edge(0, 11, 1.0), false);
        due(x, edge(3, 4, 1.0), false);
        int ends = 0;
        for (int v = 0; v < 12; v++) {
            ends += Integer.parseInt(x.answer(degree(v)));
        }
        due(ends == 60, "30 edges have 60 ends, not " + ends);
        due(x, begin(1, 0), 12 + 12);
        due(x, sent(), 60);
    }

    private static void thirtyEdgesBetweenTwo() {
        says("more than one between the same two vertices too");
        Subject x = made(size(2));
        for (int i = 0; i < 30; i++) {
            due(x, degree(0), i);
            due(x, i % 2 == 0 ? edge(0, 1, 30.0 - i) : edge(1, 0, 30.0 - i), true);
        }
        due(x, edge(0, 1, 0.0), false);
        due(x, degree(0), 30);
        due(x, degree(1), 30);
        due(x, begin(0, 1), 1);
        due(x, sent(), 30);
        due(x, pending(0, 0), 1.0);
        due(x, begin(3, 0), 1);
        due(x, pending(1, 0), 30.0);
    }

    private static void partsOfEachVertex() {
        says("There are k PARTS, k from 1 to 4: vertex v is in part v % k");
        int[][] parts = {
            {0, 0, 0, 0, 0, 0, 0, 0, 0, 0, 0, 0},
            {0, 1, 0, 1, 0, 1, 0, 1, 0, 1, 0, 1},
            {0, 1, 2, 0, 1, 2, 0, 1, 2, 0, 1, 2},
            {0, 1, 2, 3, 0, 1, 2, 3, 0, 1, 2, 3}};
        for (int k = 1; k <= 4; k++) {
            for (int v = 0; v < 12; v++) {
                int to = (v + 5) % 12;
                Subject x = made(size(12), parts(k), edge(v, to, 1.0), begin(0, v));
                for (int p = -1; p <= 5; p++) {
                    due(x, pending(to, p), p == parts[k - 1][v] ? 1.0 : NONE);
                }
                due(x, crossed(), parts[k - 1][v] == parts[k - 1][to] ? 0 : 1);
            }
        }
    }

    // The programs.

    private static void programsZeroToThree() {
        says("PROGRAMS are 0 .. 3");
        Subject x = made(size(2), edge(0, 1, 0.25));
        due(x, begin(-1, 0), ARGUMENT);
        due(x, steps(), 0);
        String[] messages = {"0.25", "0.0", "1.0", "0.25"};
        for (int program = 0; program < 4; program++) {
            due(x, begin(program, 0), program == 1 ? 2 : 1);
            due(x, pending(1, 0), messages[program]);
        }
        due(x, begin(4, 0), ARGUMENT);
        due(x, pending(1, 0), "0.25");
    }

    private static void anyIsBetterThanNone() {
        says("any is better than none");
        Subject x = made(size(3), edge(0, 1, 0.0), begin(3, 0));
        due(x, value(1), NONE);
        due(x, step(), 1);
        due(x, value(1), 0.0);
        due(x, value(2), NONE);
        due(x, sent(), 2);
        x = made(size(3), edge(0, 1, MOST), begin(0, 0));
        due(x, value(1), NONE);
        due(x, step(), 1);
        due(x, value(1), MOST);
        due(x, value(2), NONE);
        x = made(longPath());
        due(x, begin(0, 0), 1);
        due(x, finish(10), 10);
        due(x, value(11), NONE);
        due(x, step(), 2);
        due(x, value(11), 11000000.0);
        due(x, begin(2, 0), 1);
        due(x, finish(11), 11);
        due(x, value(11), 11.0);
    }

    // Vertex 1 has the direct edge's weight first, and then hears 2.0 by way of vertex 2.
    private static void equalIsNotBetter() {
        says("takes the best of what was delivered to it, if that is better than its value");
        double less = Math.nextDown(2.0);
        double more = Math.nextUp(2.0);
        takesSecond(0, 1.0, 1.0, 2.0, 2.0, false);
        takesSecond(0, 1.0, 1.0, more, 2.0, true);
        takesSecond(0, 1.0, 1.0, less, less, false);
        takesSecond(3, MOST, 2.0, 2.0, 2.0, false);
        takesSecond(3, MOST, 2.0, less, 2.0, true);
        takesSecond(3, MOST, 2.0, more, more, false);
    }

    private static void takesSecond(int program, double first, double second, double direct, double last, boolean taken) {
        Subject x = made(size(4), edge(0, 2, first), edge(2, 1, second), edge(0, 1, direct), begin(program, 0), step());
        due(x, value(1), direct);
        due(x, sent(), 2 + 4);
        due(x, step(), 3);
        due(x, value(1), last);
        due(x, sent(), taken ? 6 + 2 : 6);
        due(x, over(), !taken);
    }

    private static void firstValues() {
        String[] words = {
            "0 DISTANCES: the source has 0 at first, the others none", "1 GROUPS: vertex v has v at first",
            "2 LEVELS: as 0", "3 WIDTHS: the source has 1000000 at first, the others none"};
        for (int program = 0; program < 4; program++) {
            says(words[program]);
            for (int source : new int[] {0, 1, 11}) {
                Subject x = made(size(12), edge(0, 11, 1.0), begin(program, source));
                double atSource = program == 3 ? MOST : 0.0;
                for (int v = 0; v < 12; v++) {
                    due(x, value(v), program == 1 ? v : v == source ? atSource : NONE);
                }
                due(x, sum(), program == 1 ? 66.0 : atSource);
            }
        }
    }

    private static void messagesOfDistances() {
        says("the lesser is better; the message is x + w");
        Subject x = made(size(3), edge(0, 1, 0.0), edge(1, 2, MOST), begin(0, 0));
        due(x, pending(1, 0), 0.0);
        due(x, step(), 1);
        due(x, pending(2, 0), MOST);
        due(x, pending(0, 0), 0.0);
        due(x, finish(9), 2);
        due(x, value(2), MOST);
        due(x, begin(0, 2), 1);
        due(x, finish(9), 3);
        due(x, value(0), MOST);
    }

    private static void messagesOfGroups() {
        says("the lesser is better; the message is x");
        Subject x = made(size(12), edge(0, 11, MOST), edge(11, 10, 0.0), begin(1, 5));
        due(x, pending(11, 0), 0.0);
        due(x, pending(0, 0), 11.0);
        due(x, pending(10, 0), 11.0);
        due(x, step(), 3);
        due(x, value(0), 0.0);
        due(x, value(11), 0.0);
        due(x, value(10), 10.0);
        due(x, finish(9), 2);
        due(x, value(10), 0.0);
        due(x, value(9), 9.0);
    }

    private static void messagesOfLevels() {
        says("as 0, but the message is x + 1");
        Subject x = made(size(3), edge(0, 1, 0.0), edge(1, 2, MOST), edge(0, 2, 0.5), edge(0, 1, 3.0), begin(2, 0));
        due(x, pending(1, 0), 1.0);
        due(x, pending(2, 0), 1.0);
        due(x, step(), 2);
        due(x, pending(2, 0), 2.0);
        due(x, pending(0, 0), 2.0);
        due(x, finish(9), 1);
        due(x, value(0), 0.0);
        due(x, value(1), 1.0);
        due(x, value(2), 1.0);
    }

    private static void messagesOfWidths() {
        says("the greater is better; the message is the lesser of x and w");
        double[] next = {Math.nextDown(5.0), 5.0, Math.nextUp(5.0), 0.0, MOST};
        double[] told = {Math.nextDown(5.0), 5.0, 5.0, 0.0, 5.0};
        for (int i = 0; i < next.length; i++) {
            Subject x = made(size(3), edge(0, 1, 5.0), edge(1, 2, next[i]), begin(3, 0));
            due(x, pending(1, 0), 5.0);
            due(x, step(), 1);
            due(x, pending(2, 0), told[i]);
            due(x, pending(0, 0), 5.0);
        }
        Subject x = made(size(2), edge(0, 1, MOST), begin(3, 0));
        due(x, pending(1, 0), MOST);
        due(x, finish(9), 2);
        due(x, value(1), MOST);
    }

    // The steps of a run.

    private static void stepZero() {
        says("STEP 0: all vertices are ACTIVE; those that have a value send along all their edges");
        Subject x = made(graph());
        due(x, begin(0, 4), 0);
        due(x, sent(), 0);
        due(x, begin(0, 3), 1);
        due(x, sent(), 1);
        due(x, begin(0, 2), 3);
        due(x, sent(), 3);
        due(x, begin(1, 4), 6);
        due(x, sent(), 8);
        due(x, steps(), 1);
    }

    private static void laterSteps() {
        says("the vertices to which something was delivered are active; else it sends nothing");
        Subject x = made(graph());
        due(x, begin(0, 3), 1);
        due(x, step(), 1);
        due(x, value(2), MOST);
        due(x, value(0), NONE);
        due(x, sent(), 1 + 3);
        due(x, step(), 3);
        due(x, sent(), 4 + 4);
        due(x, value(4), NONE);
        due(x, step(), 3);
        due(x, value(0), 1000000.75);
        due(x, sent(), 8 + 2);
        due(x, step(), 2);
        due(x, sent(), 10);
        due(x, over(), true);
    }

    private static void combinedIntoTheBest() {
        says("all messages that were sent in it from vertices of one part to one vertex are combined into one, the best");
        Subject x = made(size(2), edge(0, 1, 3.0), begin(0, 0));
        due(x, pending(1, 0), 3.0);
        due(x, edge(0, 1, 1.0), true);
        due(x, edge(0, 1, 2.0), true);
        due(x, begin(0, 0), 1);
        due(x, pending(1, 0), 1.0);
        due(x, begin(3, 0), 1);
        due(x, pending(1, 0), 3.0);
        x = made(size(9), parts(4), edge(8, 1, 0.0), edge(4, 1, 0.0), edge(7, 1, 0.0), edge(3, 1, 0.0), begin(1, 0));
        due(x, pending(1, 0), 4.0);
        due(x, pending(1, 3), 3.0);
        due(x, pending(1, 1), NONE);
        due(x, pending(1, 2), NONE);
        due(x, step(), 5);
        due(x, value(1), 1.0);
    }

    private static void crossedIntoAnotherPart() {
        says("it has CROSSED if the vertex is in another part");
        int[][] ends = {{0, 1}, {0, 2}, {0, 3}, {0, 4}, {3, 7}, {3, 4}, {1, 11}};
        int[][] crossed = {{0, 0, 0, 0, 0, 0, 0}, {1, 0, 1, 0, 0, 1, 0}, {1, 1, 0, 1, 1, 1, 1}, {1, 1, 1, 0, 0, 1, 1}};
        for (int k = 1; k <= 4; k++) {
            for (int i = 0; i < ends.length; i++) {
                Subject x = made(size(12), parts(k), edge(ends[i][0], ends[i][1], 1.0), begin(0, ends[i][0]));
                due(x, crossed(), crossed[k - 1][i]);
                due(x, begin(1, 0), 2);
                due(x, crossed(), 2 * crossed[k - 1][i]);
            }
        }
    }

    private static void overWhenNothingIsToBeDelivered() {
        says("The run is OVER when nothing is to be delivered behind a step");
        for (int program = 0; program < 4; program++) {
            Subject x = made(begin(program, 0));
            due(x, over(), true);
            due(x, steps(), 1);
            x = made(size(12), begin(program, 11));
            due(x, over(), true);
        }
        Subject x = made(graph());
        x.answer(begin(0, 4));
        due(x, over(), true);
        x.answer(begin(0, 3));
        for (int i = 1; i <= 4; i++) {
            due(x, over(), false);
            x.answer(step());
        }
        due(x, over(), true);
        due(x, steps(), 5);
    }

    private static void refusedChangesNothing() {
        says("A call that is refused changes nothing");
        for (State state : states()) {
            for (int n : NO_SIZES) {
                changesNothing(state, size(n), false);
            }
            for (int k : NO_PARTS) {
                changesNothing(state, parts(k), false);
            }
            for (Call call : refusedEdges(state.n)) {
                changesNothing(state, call, false);
            }
        }
    }

    private static void throwingChangesNothing() {
        says("A call that throws changes nothing");
        for (State state : states()) {
            for (int program : NO_PROGRAMS) {
                changesNothing(state, begin(program, 0), ARGUMENT);
                changesNothing(state, begin(program, state.n - 1), ARGUMENT);
            }
            for (int source : noVertices(state.n)) {
                for (int program = -1; program <= 4; program++) {
                    changesNothing(state, begin(program, source), ARGUMENT);
                }
            }
        }
        for (State state : statesWithoutRun()) {
            changesNothing(state, step(), STATE);
            changesNothing(state, finish(1), STATE);
        }
        for (State state : statesOver()) {
            changesNothing(state, step(), STATE);
        }
    }

    private static void doneEndsTheRun() {
        says("Each size(), edge() and parts() that is done ends the run: there is none then, "
            + "and all that is told of a run is as before the first one");
        for (State state : states()) {
            for (int n : new int[] {1, 2, state.n, 12}) {
                isAsBeforeTheFirstRun(state, size(n));
            }
            for (int k = 1; k <= 4; k++) {
                isAsBeforeTheFirstRun(state, parts(k));
            }
            if (state.n > 1 && state.n < 12) {
                isAsBeforeTheFirstRun(state, edge(0, state.n - 1, 0.0));
                isAsBeforeTheFirstRun(state, edge(1, 0, MOST));
            }
        }
    }

    // The twin does all but the calls of a run, so it never had one.
    private static void isAsBeforeTheFirstRun(State state, Call done) {
        Subject x = made(state.calls);
        due(x, done, true);
        Subject twin = new Subject();
        for (Call call : state.calls) {
            if (!isOfRun(call)) {
                twin.answer(call);
            }
        }
        due(twin, done, true);
        String where = state.name + ", " + done.text;
        same(where, x.answers(looks()), twin.answers(looks()));
        due(x, step(), STATE);
        due(x, finish(1), STATE);
        due(x, finish(0), STATE);
        same(where + ", and later", x.answers(later()), twin.answers(later()));
    }

    private static boolean isOfRun(Call call) {
        return call.text.startsWith("begin") || call.text.startsWith("step") || call.text.startsWith("finish");
    }

    private static void refusedDoesNotEndTheRun() {
        says("Each size(), edge() and parts() that is done ends the run");
        for (int program = 0; program < 4; program++) {
            Subject x = made(graph());
            x.answer(begin(program, 0));
            due(x, size(0), false);
            due(x, size(13), false);
            due(x, parts(0), false);
            due(x, parts(5), false);
            due(x, edge(0, 5, 1.0), false);
            due(x, edge(0, 0, 1.0), false);
            due(x, edge(0, 1, Double.NaN), false);
            due(x, steps(), 1);
            due(x, step(), program == 1 ? 4 : 2);
            due(x, parts(2), true);
            due(x, step(), STATE);
        }
    }

    // Promises 1 to 4.

    private static void newObject() {
        says("1: One vertex, no edges, one part, no run");
        Subject x = new Subject();
        for (Call look : looks()) {
            due(x, look, newAnswer(look.text));
        }
        due(x, step(), STATE);
        due(x, finish(1), STATE);
        due(x, edge(0, 1, 1.0), false);
        due(x, begin(1, 1), ARGUMENT);
        due(x, begin(1, 0), 0);
        due(x, over(), true);
        x = made(size(12), edge(0, 1, 1.0), edge(3, 11, 1.0), begin(1, 0));
        due(x, crossed(), 0);
        due(x, pending(1, 0), 0.0);
        due(x, pending(0, 1), NONE);
    }

    private static Object newAnswer(String look) {
        return switch (look) {
            case "over()" -> false;
            case "sum()" -> 0.0;
            case "steps()", "sent()", "delivered()", "crossed()", "degree(0)" -> 0;
            default -> look.startsWith("degree") ? (Object) (-1) : (Object) NONE;
        };
    }

    private static void sizeRefuses() {
        says("2: false if n is not 1 .. 12");
        for (State state : states()) {
            for (int n = 1; n <= 12; n++) {
                Subject x = made(state.calls);
                due(x, size(n), true);
                due(x, degree(n - 1), 0);
                due(x, degree(n), -1);
            }
            changesNothing(state, size(0), false);
            changesNothing(state, size(13), false);
        }
    }

    private static void sizeLeavesNoEdges() {
        says("2: n vertices and no edges");
        for (State state : states()) {
            for (int n : new int[] {1, state.n, 12}) {
                Subject x = made(state.calls);
                due(x, size(n), true);
                for (int v = -1; v <= 12; v++) {
                    due(x, degree(v), v >= 0 && v < n ? 0 : -1);
                }
                due(x, begin(1, 0), 0);
                for (int i = 0; i < 31; i++) {
                    due(x, edge(n - 1, 0, i), n > 1 && i < 30);
                }
            }
        }
    }

    private static void edgeRefusesNoVertex() {
        says("3: false if a or b is no vertex");
        for (State state : states()) {
            for (int v : noVertices(state.n)) {
                changesNothing(state, edge(v, 0, 1.0), false);
                changesNothing(state, edge(0, v, 1.0), false);
                changesNothing(state, edge(v, v, 1.0), false);
            }
        }
        for (int n = 2; n <= 12; n++) {
            Subject x = made(size(n));
            due(x, edge(n - 1, 0, 1.0), true);
            due(x, edge(0, n - 1, 1.0), true);
            due(x, edge(n, 0, 1.0), false);
            due(x, edge(0, n, 1.0), false);
            due(x, edge(-1, 0, 1.0), false);
            due(x, edge(0, -1, 1.0), false);
            due(x, degree(0), 2);
            due(x, degree(n - 1), 2);
        }
        // A vertex of a larger graph before is none any more.
        Subject x = made(size(12), edge(10, 11, 1.0), size(11));
        due(x, edge(10, 11, 1.0), false);
        due(x, edge(9, 10, 1.0), true);
    }

    private static void edgeRefusesSameVertex() {
        says("3: false if they are the same");
        for (State state : states()) {
            for (int v = 0; v < state.n; v++) {
                changesNothing(state, edge(v, v, 1.0), false);
            }
        }
        Subject x = made(size(12));
        for (int v = 1; v < 11; v++) {
            due(x, edge(v, v - 1, 1.0), true);
            due(x, edge(v, v, 1.0), false);
            due(x, edge(v, v + 1, 1.0), true);
        }
    }

    private static void edgeRefusesWeight() {
        says("3: false if w is not from 0 to 1000000");
        for (State state : states()) {
            if (state.n > 1) {
                for (double w : NO_WEIGHTS) {
                    changesNothing(state, edge(0, 1, w), false);
                }
            }
        }
        Subject x = made(size(2));
        for (double w : WEIGHTS) {
            due(x, edge(0, 1, w), true);
        }
        for (double w : NO_WEIGHTS) {
            due(x, edge(1, 0, w), false);
        }
        due(x, degree(1), WEIGHTS.length);
    }

    private static void edgeRefusesThirtyFirst() {
        says("3: false if there are 30");
        for (State state : statesWithThirtyEdges()) {
            changesNothing(state, edge(0, 1, 1.0), false);
            changesNothing(state, edge(11, 0, 0.0), false);
            changesNothing(state, edge(5, 4, MOST), false);
        }
        Subject x = made(full(29));
        due(x, edge(0, 1, NONE), false);
        due(x, edge(1, 1, 1.0), false);
        due(x, edge(0, 1, 1.0), true);
        due(x, edge(0, 1, 1.0), false);
        due(x, size(12), true);
        due(x, edge(0, 1, 1.0), true);
        due(x, degree(0), 1);
    }

    private static void partsRefuses() {
        says("4: false if k is not 1 .. 4");
        for (State state : states()) {
            for (int k = 1; k <= 4; k++) {
                Subject x = made(state.calls);
                due(x, parts(k), true);
                due(x, size(5), true);
                // Said again, as the document is silent on what size() does to the parts.
                due(x, parts(k), true);
                due(x, edge(k - 1, 4, 1.0), true);
                due(x, begin(0, k - 1), 1);
                due(x, pending(4, k - 1), 1.0);
                due(x, pending(4, k), NONE);
            }
            changesNothing(state, parts(0), false);
            changesNothing(state, parts(5), false);
        }
    }

    // Promises 5 to 8.

    private static void beginAnswersToBeDelivered() {
        says("5: Begins a run and does step 0: how many messages are to be delivered");
        Subject x = made(size(12), parts(4), begin(1, 0));
        due(x, steps(), 1);
        due(x, edge(0, 1, 1.0), true);
        due(x, begin(1, 0), 2);
        due(x, begin(0, 0), 1);
        due(x, begin(0, 2), 0);
        x = made(full(30));
        due(x, begin(1, 0), 24);
        due(x, begin(0, 0), 2);
        due(x, steps(), 1);
    }

    private static void beginNoProgram() {
        says("5: IllegalArgumentException if there is no such program");
        for (State state : states()) {
            for (int program : NO_PROGRAMS) {
                changesNothing(state, begin(program, 0), ARGUMENT);
            }
            for (int program = 0; program < 4; program++) {
                Subject x = made(state.calls);
                due(x.answer(begin(program, 0)).matches("[0-9]+"), "begin(" + program + ", 0) is done in " + state.name);
                due(x, steps(), 1);
                due(x, value(0), program == 3 ? MOST : 0.0);
            }
        }
    }

    private static void beginNoVertex() {
        says("5: IllegalArgumentException if there is no such vertex");
        for (State state : states()) {
            for (int program = 0; program < 4; program++) {
                for (int source : noVertices(state.n)) {
                    changesNothing(state, begin(program, source), ARGUMENT);
                }
                for (int source : new int[] {0, state.n - 1}) {
                    Subject x = made(state.calls);
                    due(x.answer(begin(program, source)).matches("[0-9]+"),
                        "begin(" + program + ", " + source + ") is done in " + state.name);
                    due(x, steps(), 1);
                }
            }
        }
    }

    private static void stepAnswersActive() {
        says("6: Does one step more: how many vertices were active");
        Subject x = made(longPath());
        due(x, begin(0, 0), 1);
        due(x, step(), 1);
        for (int i = 2; i <= 11; i++) {
            due(x, step(), 2);
            due(x, steps(), i + 1);
        }
        due(x, step(), 1);
        due(x, over(), true);
        due(x, begin(1, 0), 12);
        due(x, step(), 12);
    }

    private static void stepWithoutRun() {
        says("6: IllegalStateException if there is no run");
        for (State state : statesWithoutRun()) {
            changesNothing(state, step(), STATE);
        }
        Subject x = made(graph());
        due(x, step(), STATE);
        due(x, begin(0, 0), 2);
        due(x, step(), 2);
        due(x, edge(0, 1, 1.0), true);
        due(x, step(), STATE);
    }

    private static void stepWhenOver() {
        says("6: IllegalStateException if it is over");
        for (State state : statesOver()) {
            changesNothing(state, step(), STATE);
        }
        Subject x = made(graph());
        due(x, begin(0, 3), 1);
        int[] active = {1, 3, 3, 2};
        for (int n : active) {
            due(x, step(), n);
        }
        due(x, step(), STATE);
        due(x, step(), STATE);
        due(x, steps(), 5);
    }

    // From vertex 3 the run of graph() takes four steps behind step 0.
    private static void finishAtMost() {
        says("7: Does steps until the run is over, n at most: how many");
        int[] most = {1, 2, 3, 4, 5, 6, 99, MAX - 1, MAX};
        for (int n : most) {
            int done = n < 4 ? n : 4;
            Subject x = made(graph());
            due(x, begin(0, 3), 1);
            due(x, finish(n), done);
            due(x, steps(), 1 + done);
            due(x, over(), n >= 4);
            due(x, finish(n), n < 4 - done ? n : 4 - done);
        }
        for (State state : statesOver()) {
            for (int n : most) {
                changesNothing(state, finish(n), 0);
            }
        }
        // As many steps one by one lead to the same.
        for (int n = 1; n <= 4; n++) {
            Subject x = made(graph());
            Subject twin = made(graph());
            x.answer(begin(0, 3));
            twin.answer(begin(0, 3));
            x.answer(finish(n));
            for (int i = 0; i < n; i++) {
                twin.answer(step());
            }
            same("finish(" + n + ")", x.answers(looks()), twin.answers(looks()));
        }
    }

    private static void finishBelowOne() {
        says("7: none if n is below 1");
        for (int n : new int[] {0, -1, -4, MIN + 1, MIN}) {
            for (State state : statesGoingOn()) {
                changesNothing(state, finish(n), 0);
            }
            for (State state : statesOver()) {
                changesNothing(state, finish(n), 0);
            }
        }
        Subject x = made(graph());
        x.answer(begin(0, 3));
        due(x, finish(0), 0);
        due(x, steps(), 1);
        due(x, finish(1), 1);
        due(x, steps(), 2);
    }

    private static void finishWithoutRun() {
        says("7: IllegalStateException if there is no run");
        for (State state : statesWithoutRun()) {
            for (int n : new int[] {MIN, -1, 0, 1, 2, MAX}) {
                changesNothing(state, finish(n), STATE);
            }
        }
        Subject x = made(begin(0, 0));
        due(x, finish(1), 0);
        due(x, size(1), true);
        due(x, finish(1), STATE);
    }

    private static void overNeedsRun() {
        says("8: Whether there is a run that is over");
        for (State state : statesWithoutRun()) {
            due(made(state.calls), over(), false);
        }
        for (State state : statesGoingOn()) {
            due(made(state.calls), over(), false);
        }
        for (State state : statesOver()) {
            due(made(state.calls), over(), true);
        }
    }

    // Promises 9 to 16.

    private static void valueNone() {
        says("9: -1 if it has none, there is no such vertex, or no run");
        for (State state : states()) {
            Subject x = made(state.calls);
            for (int v : noVertices(state.n)) {
                due(x, value(v), NONE);
            }
        }
        for (State state : statesWithoutRun()) {
            Subject x = made(state.calls);
            for (int v = 0; v < state.n; v++) {
                due(x, value(v), NONE);
            }
        }
        Subject x = made(graph());
        x.answer(begin(0, 3));
        double[][] bySteps = {
            {NONE, NONE, NONE, 0.0, NONE},
            {NONE, NONE, MOST, 0.0, NONE},
            {1000002.0, 1000000.25, MOST, 0.0, NONE},
            {1000000.75, 1000000.25, MOST, 0.0, NONE},
            {1000000.75, 1000000.25, MOST, 0.0, NONE}};
        for (double[] values : bySteps) {
            due(x, value(-1), NONE);
            for (int v = 0; v < 5; v++) {
                due(x, value(v), values[v]);
            }
            due(x, value(5), NONE);
            x.answer(step());
        }
    }

    private static void sumOfThoseThatHaveOne() {
        says("10: The sum of the values of all vertices that have one, vertex 0 first");
        Subject x = made(graph());
        x.answer(begin(0, 3));
        double[] bySteps = {0.0, MOST, 1000002.0 + 1000000.25 + MOST, 1000000.75 + 1000000.25 + MOST};
        for (double total : bySteps) {
            due(x, sum(), total);
            x.answer(step());
        }
        x = made(size(12), begin(1, 0));
        due(x, sum(), 66.0);
        x = made(size(4), edge(3, 0, 0.1), edge(3, 1, 0.2), edge(3, 2, 0.3), begin(0, 3), finish(9));
        due(x, sum(), 0.1 + 0.2 + 0.3);
        due(0.1 + 0.2 + 0.3 != 0.3 + 0.2 + 0.1, "the order of this sum can be told");
        x = made(longPath());
        x.answer(begin(3, 11));
        due(x, sum(), MOST);
        due(x, finish(99), 12);
        due(x, sum(), 12 * MOST);
    }

    private static void sumWithoutRun() {
        says("10: 0 if there is no run");
        for (State state : statesWithoutRun()) {
            due(made(state.calls), sum(), 0.0);
        }
        Subject x = made(size(3));
        due(x, begin(1, 0), 0);
        due(x, sum(), 3.0);
        due(x, parts(1), true);
        due(x, sum(), 0.0);
    }

    private static void stepsCountsStepZero() {
        says("11: How many steps the run did, step 0 too; 0 if there is none");
        for (State state : statesWithoutRun()) {
            due(made(state.calls), steps(), 0);
        }
        Subject x = made(graph());
        x.answer(begin(0, 3));
        for (int i = 1; i <= 5; i++) {
            due(x, steps(), i);
            due(x, i < 5 ? finish(1) : finish(99), i < 5 ? 1 : 0);
        }
        due(x, steps(), 5);
        due(x, begin(0, 4), 0);
        due(x, steps(), 1);
    }

    private static void sentOfTheRun() {
        says("12: How many messages were sent in the run");
        for (State state : statesWithoutRun()) {
            due(made(state.calls), sent(), 0);
        }
        countsBySteps(sent(), 1, 4, 8, 10, 10);
        Subject x = made(full(30));
        x.answer(begin(1, 0));
        due(x, sent(), 60);
    }

    private static void deliveredOrToBe() {
        says("13: How many were delivered in it, or are to be");
        for (State state : statesWithoutRun()) {
            due(made(state.calls), delivered(), 0);
        }
        countsBySteps(delivered(), 1, 4, 8, 10, 10);
        Subject x = made(size(2), edge(0, 1, 1.0), edge(0, 1, 1.0), begin(1, 0));
        due(x, sent(), 4);
        due(x, delivered(), 2);
        due(x, finish(9), 2);
        due(x, delivered(), 3);
    }

    private static void crossedOfThese() {
        says("14: How many of these crossed");
        for (State state : statesWithoutRun()) {
            due(made(state.calls), crossed(), 0);
        }
        countsBySteps(crossed(), 1, 3, 6, 7, 7);
        Subject x = made(graph());
        due(x, parts(1), true);
        x.answer(begin(0, 3));
        due(x, finish(9), 4);
        due(x, crossed(), 0);
        due(x, parts(4), true);
        x.answer(begin(0, 3));
        due(x, finish(9), 4);
        due(x, crossed(), 10);
    }

    // A second run counts from its own start.
    private static void countsBySteps(Call look, int... counts) {
        Subject x = made(graph());
        for (int run = 0; run < 2; run++) {
            x.answer(begin(0, 3));
            for (int count : counts) {
                due(x, look, count);
                x.answer(step());
            }
        }
        x.answer(parts(2));
        due(x, look, 0);
    }

    private static void pendingNothing() {
        says("15: -1 if nothing is");
        for (State state : statesWithoutRun()) {
            nothingIsPending(state);
        }
        for (State state : statesOver()) {
            nothingIsPending(state);
        }
        Subject x = made(graph());
        due(x, begin(0, 3), 1);
        due(x, pending(2, 1), MOST);
        due(x, pending(2, 0), NONE);
        due(x, pending(3, 0), NONE);
        due(x, step(), 1);
        due(x, pending(2, 1), NONE);
        due(x, pending(0, 0), 1000002.0);
        due(x, pending(1, 0), 1000000.25);
        due(x, pending(3, 0), 2000000.0);
        due(x, pending(4, 0), NONE);
        x = made(size(2), edge(0, 1, 0.0), begin(3, 0));
        due(x, pending(1, 0), 0.0);
        due(x, pending(0, 0), NONE);
    }

    private static void nothingIsPending(State state) {
        Subject x = made(state.calls);
        for (int v = 0; v < 12; v++) {
            for (int p = 0; p < 4; p++) {
                due(x, pending(v, p), NONE);
            }
        }
    }

    private static void pendingNoVertexOrPart() {
        says("15: -1 if there is no such vertex or part");
        for (int k = 1; k <= 4; k++) {
            Subject x = made(size(6), parts(k), edge(k - 1, 5, 1.0), edge(0, 5, 1.0), begin(1, 0));
            due(x, pending(5, 0), 0.0);
            due(x, pending(5, k - 1), k - 1.0);
            for (int p : new int[] {MIN, -4, -1, k, 4, 5, MAX}) {
                due(x, pending(5, p), NONE);
            }
            for (int v : noVertices(6)) {
                for (int p : new int[] {MIN, -1, 0, k - 1, k, MAX}) {
                    due(x, pending(v, p), NONE);
                }
            }
        }
    }

    private static void degreeOfVertex() {
        says("16: The number of edges of a vertex; -1 if there is no such vertex");
        for (State state : states()) {
            Subject x = made(state.calls);
            for (int v : noVertices(state.n)) {
                due(x, degree(v), -1);
            }
        }
        Subject x = made(graph());
        int[] degrees = {2, 2, 3, 1, 0};
        for (int v = 0; v < 5; v++) {
            due(x, degree(v), degrees[v]);
        }
        x = made(full(30));
        int[] ofRing = {5, 6, 6, 6, 6, 6, 5, 4, 4, 4, 4, 4};
        for (int v = 0; v < 12; v++) {
            due(x, degree(v), ofRing[v]);
        }
    }

    // Whether a call that is refused, throws, or has nothing to do leaves all as it was.

    private static void changesNothing(State state, Call call, Object want) {
        Subject x = made(state.calls);
        Subject twin = made(state.calls);
        List<String> before = x.answers(looks());
        due(x, call, want);
        String where = state.name + ", behind " + call.text;
        same(where, x.answers(looks()), before);
        same(where + ", later", x.answers(later()), twin.answers(later()));
    }

    // What is not told at once, as a weight or the edges left, tells in what comes later.
    private static List<Call> later() {
        return List.of(finish(1), sum(), finish(99), sum(), steps(), sent(), delivered(), crossed(),
            begin(0, 0), step(), finish(99), sum(), steps(), sent(), delivered(), crossed(),
            edge(0, 1, 0.125), degree(0), degree(1), begin(3, 0), finish(99), value(1), sum(), steps(), sent(), crossed(),
            size(7), edge(0, 1, 0.5), edge(1, 6, 0.25), begin(1, 6), delivered(), crossed(), finish(99), sum(), crossed());
    }

    // Every call that only looks, inside every limit of the document and one beyond each.
    private static List<Call> looks() {
        List<Call> all = new ArrayList<>(List.of(over(), sum(), steps(), sent(), delivered(), crossed()));
        for (int v = -1; v <= 12; v++) {
            all.add(degree(v));
            all.add(value(v));
            for (int p = -1; p <= 4; p++) {
                all.add(pending(v, p));
            }
        }
        return all;
    }

    // The states.

    private static List<State> states() {
        List<State> all = new ArrayList<>(statesWithoutRun());
        all.addAll(statesGoingOn());
        all.addAll(statesOver());
        return all;
    }

    private static List<State> statesWithoutRun() {
        return List.of(
            new State("a new object", 1, List.of()),
            new State("a graph without a run", 5, graph()),
            new State("a run ended by parts()", 5, joined(graph(), begin(0, 3), step(), parts(3))),
            new State("a run ended by edge()", 5, joined(graph(), begin(1, 0), step(), edge(0, 3, 0.5))),
            new State("a run ended by size()", 2, joined(graph(), begin(3, 0), step(), size(2))),
            new State("30 edges without a run", 12, full(30)));
    }

    private static List<State> statesGoingOn() {
        return List.of(
            new State("distances begun", 5, joined(graph(), begin(0, 0))),
            new State("distances going on", 5, joined(graph(), begin(0, 3), step())),
            new State("groups going on", 5, joined(graph(), begin(1, 4), step())),
            new State("levels going on", 5, joined(graph(), begin(2, 3), finish(2))),
            new State("widths going on", 5, joined(graph(), begin(3, 0), step())),
            new State("30 edges with a run", 12, joined(full(30), begin(3, 11), step())));
    }

    private static List<State> statesOver() {
        return List.of(
            new State("a new object's run over", 1, List.of(begin(1, 0))),
            new State("a run over at once", 5, joined(graph(), begin(0, 4))),
            new State("distances over", 5, joined(graph(), begin(0, 3), finish(99))),
            new State("widths over", 5, joined(graph(), begin(3, 1), finish(99))),
            new State("30 edges with a run over", 12, joined(full(30), begin(1, 0), finish(99))));
    }

    private static List<State> statesWithThirtyEdges() {
        return states().stream().filter(state -> state.n == 12).toList();
    }

    // A triangle 0, 1, 2 with a long way to 3, and 4 alone, in two parts.
    private static List<Call> graph() {
        return List.of(size(5), parts(2), edge(0, 1, 0.5), edge(1, 2, 0.25), edge(0, 2, 2.0), edge(3, 2, MOST));
    }

    private static List<Call> longPath() {
        List<Call> calls = new ArrayList<>(List.of(size(12)));
        for (int v = 0; v < 11; v++) {
            calls.add(edge(v, v + 1, MOST));
        }
        return calls;
    }

    // A ring of twelve in four parts, gone round two times and a half by 30 edges.
    private static List<Call> full(int edges) {
        List<Call> calls = new ArrayList<>(List.of(size(12), parts(4)));
        for (int i = 0; i < edges; i++) {
            calls.add(edge(i % 12, (i + 1) % 12, i * 0.25));
        }
        return calls;
    }

    private static List<Call> joined(List<Call> calls, Call... more) {
        List<Call> all = new ArrayList<>(calls);
        all.addAll(List.of(more));
        return all;
    }

    private static Subject made(Call... calls) {
        return made(List.of(calls));
    }

    private static Subject made(List<Call> calls) {
        Subject x = new Subject();
        for (Call call : calls) {
            String got = x.answer(call);
            due(!got.equals("false") && !got.startsWith("throws"), call.text + " is done, not answered " + got);
        }
        return x;
    }

    private static int[] noVertices(int n) {
        return new int[] {MIN, -n, -1, n, n + 1, 12, 13, MAX};
    }

    private static List<Call> refusedEdges(int n) {
        List<Call> calls = new ArrayList<>();
        for (int v : noVertices(n)) {
            calls.add(edge(v, 0, 1.0));
            calls.add(edge(n - 1, v, 1.0));
        }
        for (int v = 0; v < n; v++) {
            calls.add(edge(v, v, 1.0));
        }
        for (double w : NO_WEIGHTS) {
            calls.add(edge(n - 1, 0, w));
        }
        return calls;
    }

    // The calls of the face.

    private static Call size(int n) {
        return new Call("size(" + n + ")", x -> x.size(n));
    }

    private static Call edge(int a, int b, double w) {
        return new Call("edge(" + a + ", " + b + ", " + w + ")", x -> x.edge(a, b, w));
    }

    private static Call parts(int k) {
        return new Call("parts(" + k + ")", x -> x.parts(k));
    }

    private static Call begin(int program, int source) {
        return new Call("begin(" + program + ", " + source + ")", x -> x.begin(program, source));
    }

    private static Call step() {
        return new Call("step()", StepGraph::step);
    }

    private static Call finish(int n) {
        return new Call("finish(" + n + ")", x -> x.finish(n));
    }

    private static Call over() {
        return new Call("over()", StepGraph::over);
    }

    private static Call value(int v) {
        return new Call("value(" + v + ")", x -> x.value(v));
    }

    private static Call sum() {
        return new Call("sum()", StepGraph::sum);
    }

    private static Call steps() {
        return new Call("steps()", StepGraph::steps);
    }

    private static Call sent() {
        return new Call("sent()", StepGraph::sent);
    }

    private static Call delivered() {
        return new Call("delivered()", StepGraph::delivered);
    }

    private static Call crossed() {
        return new Call("crossed()", StepGraph::crossed);
    }

    private static Call pending(int v, int p) {
        return new Call("pending(" + v + ", " + p + ")", x -> x.pending(v, p));
    }

    private static Call degree(int v) {
        return new Call("degree(" + v + ")", x -> x.degree(v));
    }

    // What is due.

    private static void says(String words) {
        sentence = words;
    }

    private static void due(Subject x, Call call, Object want) {
        String got = x.answer(call);
        due(got.equals(String.valueOf(want)), call.text + " answered " + got + ", due is " + want);
    }

    private static void same(String where, List<String> got, List<String> want) {
        for (int i = 0; i < want.size(); i++) {
            due(got.get(i).equals(want.get(i)), where + ": " + got.get(i) + ", due is: " + want.get(i));
        }
    }

    private static void due(boolean holds, String what) {
        if (!holds) {
            wrong++;
            System.out.println("\"" + sentence + "\": " + what);
        }
    }
}
