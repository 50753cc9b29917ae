import java.io.IOException;
import java.nio.charset.StandardCharsets;
import java.nio.file.Files;
import java.nio.file.Path;

/**
 * The document from its first line to its last, in its own words and order: behind each sentence, or
 * part of one, that says what a call answers or changes, runs of calls on new objects with the answers
 * that are due. In the end the words are laid beside the document, so that none is left out.
 */
public final class StepGraphSentences {
    private static final Path DOCUMENT = Path.of("..", "shared", "DOC.md");
    private static final String ARGUMENT = " throws.IllegalArgumentException; ";
    private static final String STATE = " throws.IllegalStateException; ";
    private static final String MAX = "2147483647";
    private static final String MIN = "-2147483648";

    // 0 - 1 - 2. Distances from 0 take three steps behind step 0.
    private static final String PATH = "size(3) true; edge(0, 1, 0.5) true; edge(1, 2, 0.25) true; ";
    // The way from 0 to 1 by 2 is shorter than the edge.
    private static final String DETOUR = "size(3) true; edge(0, 1, 10.0) true; edge(0, 2, 1.0) true; "
        + "edge(2, 1, 2.0) true; ";
    // The way from 0 to 1 by 2 is wider than the edge.
    private static final String WIDER = "size(3) true; edge(0, 1, 2.0) true; edge(0, 2, 9.0) true; "
        + "edge(2, 1, 5.0) true; ";
    // 4 in the middle: with four parts each other vertex sends to it from a part of its own.
    private static final String STAR = "size(5) true; edge(0, 4, 1.0) true; edge(1, 4, 1.0) true; "
        + "edge(2, 4, 1.0) true; edge(3, 4, 1.0) true; ";
    // What is told of a run of a graph with three vertices while there is none.
    private static final String NO_RUN = "over() false; value(0) -1; value(1) -1; value(2) -1; sum() 0; steps() 0; "
        + "sent() 0; delivered() 0; crossed() 0; pending(0, 0) -1; pending(0, 1) -1; pending(1, 0) -1; "
        + "pending(1, 1) -1; pending(2, 0) -1; pending(2, 1) -1; "
        + "step()" + STATE + "finish(1)" + STATE + "finish(0)" + STATE;

    private static final StringBuilder words = new StringBuilder();
    private static int runs = 0;
    private static int wrong = 0;

    public static void main(String[] args) throws IOException {
        StepGraphCalls.failIfStillRunning();
        whatItIs();
        vertices();
        edges();
        parts();
        values();
        distances();
        groups();
        levels();
        widths();
        stepZero();
        laterSteps();
        behindEachStep();
        nothingChanged();
        runEnded();
        promises1To4();
        promises5To8();
        promises9To12();
        promises13To16();
        notPromised();
        besideTheDocument();
        System.out.println(wrong == 0 ? runs + " runs: all answers are as due" : wrong + " answers are not as due");
        if (wrong != 0) {
            System.exit(1);
        }
    }

    private static void whatItIs() {
        free("A graph whose vertices work out something together in steps:");
        says("in each step those that have messages look at them, and may send new ones along their edges, "
            + "which come in the next step.",
            PATH + "begin(0, 0) 1; value(1) -1; pending(1, 0) 0.5; step() 1; value(1) 0.5; value(2) -1; "
                + "pending(2, 0) 0.75; sent() 3; step() 2; value(2) 0.75; pending(2, 0) -1; pending(1, 0) 1; sent() 4");
        says("An object is used for at most 512 calls after it has been made;",
            "size(2) true; edge(0, 1, 0.5) true; 508 * begin(0, 0) 1; finish(9) 2; value(1) 0.5",
            "size(2) true; 509 * edge(0, 0, 1.0) false; edge(0, 1, 1.0) true; degree(0) 1",
            "510 * size(12) true; begin(1, 11) 0; sum() 66",
            "510 * step()" + STATE + "begin(1, 0) 0; over() true",
            "510 * begin(4, 0)" + ARGUMENT + "parts(4) true; degree(0) 0");
        free("what later calls answer is free.");
        says("Messages from one part of the graph to one vertex are combined before they are delivered.",
            "size(3) true; edge(0, 2, 1.0) true; edge(1, 2, 1.0) true; begin(1, 0) 3; sent() 4; delivered() 3; "
                + "pending(2, 0) 0",
            "size(3) true; parts(2) true; edge(0, 2, 1.0) true; edge(1, 2, 1.0) true; begin(1, 0) 4; sent() 4; "
                + "delivered() 4; pending(2, 0) 0; pending(2, 1) 1",
            "size(3) true; edge(0, 1, 1.0) true; edge(0, 2, 1.0) true; begin(0, 0) 2; sent() 2; delivered() 2");
    }

    // Terms.

    private static void vertices() {
        says("VERTICES are 0 .. n - 1, n from 1 to 12.",
            "size(1) true; degree(-1) -1; degree(0) 0; degree(1) -1; begin(1, 1)" + ARGUMENT + "begin(1, 0) 0; "
                + "value(0) 0; value(1) -1",
            "size(12) true; degree(11) 0; degree(12) -1; begin(1, 12)" + ARGUMENT + "begin(1, 11) 0; value(11) 11; "
                + "value(12) -1",
            "size(5) true; edge(4, 0, 1.0) true; edge(5, 0, 1.0) false; edge(0, 5, 1.0) false; edge(-1, 0, 1.0) false; "
                + "degree(4) 1",
            "size(0) false; size(13) false; degree(0) 0; degree(1) -1");
    }

    private static void edges() {
        says("EDGES join two different vertices, in both directions,",
            "size(2) true; edge(0, 1, 0.5) true; begin(0, 0) 1; pending(1, 0) 0.5; begin(0, 1) 1; pending(0, 0) 0.5; "
                + "begin(1, 0) 2; pending(0, 0) 1; pending(1, 0) 0",
            "size(2) true; edge(1, 0, 0.5) true; begin(0, 0) 1; pending(1, 0) 0.5; begin(0, 1) 1; pending(0, 0) 0.5",
            "size(2) true; edge(0, 0, 0.5) false; edge(1, 1, 0.5) false; degree(0) 0; degree(1) 0");
        says("and have a WEIGHT, a double from 0 to 1000000",
            "size(2) true; edge(0, 1, 0.0) true; begin(0, 0) 1; pending(1, 0) 0; begin(3, 0) 1; pending(1, 0) 0",
            "size(2) true; edge(0, 1, 0.1) true; begin(0, 0) 1; pending(1, 0) 0.1; begin(3, 0) 1; pending(1, 0) 0.1",
            "size(2) true; edge(0, 1, 1000000.0) true; begin(0, 0) 1; pending(1, 0) 1000000; begin(3, 0) 1; "
                + "pending(1, 0) 1000000",
            "size(2) true; edge(0, 1, -4.9E-324) false; edge(0, 1, 1000000.0000000001) false; edge(0, 1, NaN) false; "
                + "edge(0, 1, Infinity) false; edge(0, 1, -Infinity) false; degree(0) 0; begin(0, 0) 0",
            "size(3) true; edge(0, 1, 0.5) true; edge(1, 2, 0.25) true; begin(0, 1) 2; pending(0, 0) 0.5; "
                + "pending(2, 0) 0.25");
        says("(-0.0 counts as 0);",
            "size(2) true; edge(0, 1, -0.0) true; degree(0) 1; begin(3, 0) 1; pending(1, 0) 0.0; step() 1; "
                + "value(1) 0.0; sum() 1000000",
            "size(2) true; edge(0, 1, -0.0) true; begin(0, 0) 1; pending(1, 0) 0.0; step() 1; value(1) 0.0; "
                + "pending(0, 0) 0.0");
        says("there are at most 30,",
            "size(12) true; 29 * edge(0, 1, 1.0) true; edge(2, 3, 1.0) true; edge(4, 5, 1.0) false; "
                + "edge(0, 1, 1.0) false; degree(0) 29; degree(3) 1; degree(5) 0; begin(1, 0) 4; sent() 60");
        says("more than one between the same two vertices too.",
            "size(2) true; edge(0, 1, 3.0) true; edge(0, 1, 3.0) true; edge(1, 0, 2.0) true; degree(0) 3; degree(1) 3; "
                + "begin(0, 0) 1; sent() 3; pending(1, 0) 2",
            "size(2) true; 30 * edge(1, 0, 3.0) true; degree(0) 30; degree(1) 30; begin(1, 0) 2; sent() 60");
    }

    private static void parts() {
        says("There are k PARTS, k from 1 to 4:",
            STAR + "parts(1) true; begin(1, 0) 5; pending(4, 0) 0; pending(4, 1) -1",
            STAR + "parts(2) true; begin(1, 0) 6; pending(4, 0) 0; pending(4, 1) 1; pending(4, 2) -1",
            STAR + "parts(3) true; begin(1, 0) 7; pending(4, 0) 0; pending(4, 1) 1; pending(4, 2) 2; pending(4, 3) -1",
            STAR + "parts(4) true; begin(1, 0) 8; pending(4, 0) 0; pending(4, 1) 1; pending(4, 2) 2; pending(4, 3) 3; "
                + "pending(4, 4) -1",
            STAR + "parts(0) false; parts(5) false; begin(1, 0) 5");
        says("vertex v is in part v % k.",
            "size(12) true; edge(11, 0, 1.0) true; begin(0, 11) 1; pending(0, 0) 1; crossed() 0",
            "size(12) true; edge(7, 0, 1.0) true; parts(2) true; begin(0, 7) 1; pending(0, 0) -1; pending(0, 1) 1; "
                + "crossed() 1",
            "size(12) true; edge(11, 0, 1.0) true; parts(3) true; begin(0, 11) 1; pending(0, 0) -1; pending(0, 1) -1; "
                + "pending(0, 2) 1; crossed() 1",
            "size(12) true; edge(6, 0, 1.0) true; parts(4) true; begin(0, 6) 1; pending(0, 0) -1; pending(0, 2) 1; "
                + "crossed() 1",
            "size(12) true; edge(11, 7, 1.0) true; parts(4) true; begin(0, 11) 1; pending(7, 3) 1; crossed() 0",
            "size(12) true; edge(11, 7, 1.0) true; parts(3) true; begin(0, 7) 1; pending(11, 1) 1; crossed() 1");
    }

    private static void values() {
        says("PROGRAMS are 0 .. 3.",
            PATH + "begin(0, 0) 1; begin(1, 0) 3; begin(2, 0) 1; begin(3, 0) 1",
            PATH + "begin(-1, 0)" + ARGUMENT + "begin(4, 0)" + ARGUMENT + "steps() 0");
        says("With each, a vertex has a VALUE, a double, or none yet;",
            "size(2) true; edge(0, 1, 0.1) true; begin(0, 0) 1; value(0) 0; value(1) -1; step() 1; value(1) 0.1",
            "size(2) true; edge(0, 1, 0.1) true; begin(1, 0) 2; value(0) 0; value(1) 1; step() 2; value(1) 0",
            "size(2) true; edge(0, 1, 0.1) true; begin(2, 0) 1; value(0) 0; value(1) -1; step() 1; value(1) 1",
            "size(2) true; edge(0, 1, 0.1) true; begin(3, 0) 1; value(0) 1000000; value(1) -1; step() 1; value(1) 0.1");
        says("one value is BETTER than another one, and any is better than none;",
            DETOUR + "begin(0, 0) 2; step() 2; value(1) 10; step() 3; value(1) 3; value(2) 1; value(0) 0",
            WIDER + "begin(3, 0) 2; step() 2; value(1) 2; step() 3; value(1) 5; value(2) 9; value(0) 1000000",
            "size(2) true; edge(0, 1, 0.0) true; begin(3, 0) 1; value(1) -1; step() 1; value(1) 0; sent() 2",
            "size(3) true; edge(0, 1, 1000000.0) true; edge(1, 2, 1000000.0) true; begin(0, 0) 1; finish(2) 2; "
                + "value(2) 2000000");
        says("along an edge of weight w a vertex with value x sends a MESSAGE, a double:",
            "size(3) true; edge(0, 1, 0.1) true; edge(1, 2, 0.2) true; begin(0, 0) 1; pending(1, 0) 0.1; step() 1; "
                + "pending(2, 0) 0.30000000000000004; pending(0, 0) 0.2",
            PATH + "begin(0, 1) 2; sent() 2; pending(0, 0) 0.5; pending(2, 0) 0.25; pending(1, 0) -1");
    }

    private static void distances() {
        says("0 DISTANCES: the source has 0 at first, the others none;",
            PATH + "begin(0, 1) 2; value(0) -1; value(1) 0; value(2) -1",
            PATH + "begin(0, 2) 1; value(0) -1; value(1) -1; value(2) 0");
        says("the lesser is better;",
            DETOUR + "begin(0, 0) 2; step() 2; value(1) 10; step() 3; value(1) 3; step() 2; value(2) 1; over() true; "
                + "value(0) 0",
            "size(2) true; edge(0, 1, 3.0) true; edge(0, 1, 2.0) true; edge(0, 1, 4.0) true; begin(0, 0) 1; "
                + "pending(1, 0) 2");
        says("the message is x + w.",
            PATH + "begin(0, 0) 1; pending(1, 0) 0.5; step() 1; pending(2, 0) 0.75; pending(0, 0) 1",
            "size(3) true; edge(0, 1, 1000000.0) true; edge(1, 2, 0.0) true; begin(0, 0) 1; step() 1; "
                + "pending(2, 0) 1000000; pending(0, 0) 2000000");
    }

    private static void groups() {
        says("1 GROUPS: vertex v has v at first;",
            "size(12) true; begin(1, 5) 0; value(0) 0; value(1) 1; value(5) 5; value(11) 11; sum() 66",
            PATH + "begin(1, 2) 3; value(0) 0; value(1) 1; value(2) 2");
        says("the lesser is better;",
            "size(4) true; edge(3, 1, 5.0) true; begin(1, 3) 2; step() 2; value(1) 1; value(3) 1; value(0) 0; "
                + "value(2) 2; step() 1; over() true",
            STAR + "begin(1, 3) 5; pending(4, 0) 0; step() 5; value(4) 0; value(3) 3; step() 4; value(3) 0; "
                + "value(2) 0; value(1) 0");
        says("the message is x.",
            "size(4) true; edge(3, 1, 5.0) true; begin(1, 0) 2; pending(1, 0) 3; pending(3, 0) 1",
            PATH + "begin(1, 0) 3; pending(0, 0) 1; pending(1, 0) 0; pending(2, 0) 1; step() 3; pending(2, 0) 0");
    }

    private static void levels() {
        says("2 LEVELS: as 0,",
            PATH + "begin(2, 1) 2; value(0) -1; value(1) 0; value(2) -1",
            PATH + "begin(2, 0) 1; step() 1; value(1) 1; step() 2; value(0) 0; value(2) 2; step() 1; value(1) 1; "
                + "over() true");
        says("but the message is x + 1.",
            PATH + "begin(2, 0) 1; pending(1, 0) 1; step() 1; pending(2, 0) 2; pending(0, 0) 2",
            DETOUR + "begin(2, 0) 2; pending(1, 0) 1; pending(2, 0) 1; finish(9) 2; value(1) 1; value(2) 1; sum() 2");
    }

    private static void widths() {
        says("3 WIDTHS: the source has 1000000 at first, the others none;",
            PATH + "begin(3, 1) 2; value(0) -1; value(1) 1000000; value(2) -1",
            PATH + "begin(3, 2) 1; value(0) -1; value(1) -1; value(2) 1000000");
        says("the greater is better;",
            WIDER + "begin(3, 0) 2; step() 2; value(1) 2; step() 3; value(1) 5; step() 2; value(2) 9; over() true; "
                + "value(0) 1000000",
            "size(2) true; edge(0, 1, 3.0) true; edge(0, 1, 4.0) true; edge(0, 1, 2.0) true; begin(3, 0) 1; "
                + "pending(1, 0) 4");
        says("the message is the lesser of x and w.",
            PATH + "begin(3, 0) 1; pending(1, 0) 0.5; step() 1; pending(2, 0) 0.25; pending(0, 0) 0.5",
            PATH + "begin(3, 2) 1; pending(1, 0) 0.25; step() 1; pending(0, 0) 0.25; pending(2, 0) 0.25",
            "size(2) true; edge(0, 1, 1000000.0) true; begin(3, 0) 1; pending(1, 0) 1000000; step() 1; "
                + "pending(0, 0) 1000000");
    }

    private static void stepZero() {
        says("A RUN is begun with a program and a source.",
            PATH + "steps() 0; begin(0, 2) 1; steps() 1; value(2) 0; begin(3, 0) 1; steps() 1; value(0) 1000000; "
                + "value(2) -1; begin(1, 0) 3; value(2) 2");
        says("STEP 0: all vertices are ACTIVE;",
            PATH + "begin(1, 0) 3; steps() 1; sent() 4; pending(0, 0) 1; pending(1, 0) 0; pending(2, 0) 1",
            STAR + "begin(1, 4) 5; sent() 8");
        says("those that have a value send along all their edges.",
            STAR + "begin(0, 4) 4; sent() 4; pending(0, 0) 1; pending(1, 0) 1; pending(2, 0) 1; pending(3, 0) 1; "
                + "pending(4, 0) -1; begin(0, 1) 1; sent() 1; pending(4, 0) 1; pending(0, 0) -1",
            STAR + "begin(1, 0) 5; sent() 8; begin(2, 4) 4; sent() 4; begin(3, 2) 1; sent() 1",
            "size(2) true; edge(0, 1, 1.0) true; edge(0, 1, 2.0) true; begin(0, 0) 1; sent() 2; begin(1, 0) 2; "
                + "sent() 4");
    }

    private static void laterSteps() {
        says("Each later step: the vertices to which something was delivered are active;",
            "size(4) true; edge(0, 1, 1.0) true; edge(1, 2, 1.0) true; edge(2, 3, 1.0) true; begin(0, 0) 1; step() 1; "
                + "step() 2; step() 2; step() 1; over() true",
            STAR + "parts(4) true; begin(1, 0) 8; step() 5; step() 4; step() 1; over() true");
        says("each of them takes the best of what was delivered to it, if that is better than its value, as its value,",
            "size(4) true; edge(2, 3, 1.0) true; edge(0, 3, 1.0) true; edge(1, 3, 1.0) true; parts(4) true; "
                + "begin(1, 0) 6; step() 4; value(3) 0; value(0) 0; value(1) 1; value(2) 2",
            "size(4) true; edge(0, 1, 5.0) true; edge(0, 2, 7.0) true; edge(1, 3, 9.0) true; edge(2, 3, 9.0) true; "
                + "parts(4) true; begin(3, 0) 2; step() 2; pending(3, 1) 5; pending(3, 2) 7; step() 2; value(3) 7; "
                + "value(0) 1000000",
            "size(4) true; edge(0, 1, 7.0) true; edge(0, 2, 5.0) true; edge(1, 3, 9.0) true; edge(2, 3, 9.0) true; "
                + "parts(4) true; begin(3, 0) 2; finish(2) 2; value(3) 7; begin(0, 0) 2; finish(2) 2; value(3) 14",
            PATH + "begin(0, 0) 1; step() 1; pending(0, 0) 1; step() 2; value(0) 0; value(1) 0.5");
        says("and sends then along all its edges;",
            "size(4) true; edge(0, 1, 1.0) true; edge(1, 2, 2.0) true; edge(1, 3, 3.0) true; edge(1, 3, 4.0) true; "
                + "begin(0, 0) 1; sent() 1; step() 1; sent() 5; pending(0, 0) 2; pending(2, 0) 3; pending(3, 0) 4; "
                + "delivered() 4");
        says("else it sends nothing.",
            "size(2) true; edge(0, 1, 1.0) true; begin(0, 0) 1; step() 1; sent() 2; step() 1; sent() 2; "
                + "pending(1, 0) -1; over() true",
            "size(2) true; edge(0, 1, 0.0) true; begin(0, 0) 1; step() 1; pending(0, 0) 0; step() 1; sent() 2; "
                + "over() true",
            "size(2) true; edge(0, 1, 1000000.0) true; begin(3, 0) 1; step() 1; pending(0, 0) 1000000; step() 1; "
                + "sent() 2; over() true",
            PATH + "begin(1, 0) 3; step() 3; sent() 7; step() 3; sent() 8; step() 1; sent() 8; over() true");
    }

    private static void behindEachStep() {
        says("Behind each step all messages that were sent in it from vertices of one part to one vertex "
            + "are combined into one, the best of them,",
            STAR + "parts(2) true; begin(1, 0) 6; sent() 8; pending(4, 0) 0; pending(4, 1) 1; step() 5; step() 4; "
                + "sent() 15; delivered() 12; pending(4, 0) 0; pending(4, 1) 0",
            "size(4) true; edge(0, 1, 5.0) true; edge(0, 2, 7.0) true; edge(1, 3, 9.0) true; edge(2, 3, 9.0) true; "
                + "begin(3, 0) 2; step() 2; pending(3, 0) 7; delivered() 4; sent() 6; begin(0, 0) 2; step() 2; "
                + "pending(3, 0) 14",
            "size(2) true; edge(0, 1, 2.0) true; edge(0, 1, 1.0) true; edge(0, 1, 3.0) true; begin(0, 0) 1; "
                + "pending(1, 0) 1; begin(3, 0) 1; pending(1, 0) 3; begin(2, 0) 1; pending(1, 0) 1");
        says("which is DELIVERED to it in the next step;",
            PATH + "begin(0, 0) 1; pending(1, 0) 0.5; delivered() 1; value(1) -1; step() 1; value(1) 0.5; "
                + "pending(1, 0) -1; delivered() 3");
        says("it has CROSSED if the vertex is in another part.",
            "size(4) true; edge(0, 1, 1.0) true; parts(2) true; begin(0, 0) 1; crossed() 1; step() 1; crossed() 2",
            "size(4) true; edge(0, 2, 1.0) true; parts(2) true; begin(0, 0) 1; crossed() 0; step() 1; crossed() 0; "
                + "delivered() 2",
            "size(4) true; edge(0, 2, 1.0) true; edge(0, 3, 1.0) true; parts(3) true; begin(0, 0) 2; crossed() 1; "
                + "delivered() 2");
        says("The run is OVER when nothing is to be delivered behind a step.",
            PATH + "begin(0, 0) 1; over() false; step() 1; over() false; step() 2; over() false; step() 1; over() true",
            "size(3) true; edge(0, 1, 1.0) true; begin(0, 2) 0; over() true; begin(1, 2) 2; over() false",
            "begin(0, 0) 0; over() true; begin(1, 0) 0; over() true; begin(2, 0) 0; over() true; begin(3, 0) 0; "
                + "over() true");
    }

    private static void nothingChanged() {
        String goingOn = "steps() 2; sent() 3; delivered() 3; crossed() 3; value(0) 0; value(1) 0.5; value(2) -1; "
            + "sum() 0.5; pending(0, 1) 1; pending(2, 1) 0.75; over() false; degree(0) 1; degree(1) 2; degree(3) -1; ";
        String begun = PATH + "parts(2) true; begin(0, 0) 1; step() 1; " + goingOn;
        String later = goingOn + "step() 2; value(2) 0.75; finish(9) 1; crossed() 4";
        says("A call that throws, or is refused, changes nothing.",
            begun + "begin(4, 1)" + ARGUMENT + "begin(-1, 2)" + ARGUMENT + later,
            begun + "begin(1, 3)" + ARGUMENT + "begin(3, -1)" + ARGUMENT + later,
            begun + "size(0) false; size(13) false; " + later,
            begun + "edge(0, 3, 1.0) false; edge(-1, 0, 1.0) false; edge(1, 1, 1.0) false; " + later,
            begun + "edge(0, 2, -1.0) false; edge(0, 2, 1000001.0) false; edge(0, 2, NaN) false; " + later,
            begun + "parts(0) false; parts(5) false; " + later,
            PATH + "begin(0, 0) 1; finish(9) 3; step()" + STATE + "steps() 4; sent() 4; delivered() 4; over() true; "
                + "sum() 1.25; finish(9) 0",
            PATH + "step()" + STATE + "finish(1)" + STATE + NO_RUN + "degree(1) 2; begin(0, 0) 1; steps() 1; "
                + "finish(9) 3",
            "size(3) true; 30 * edge(0, 1, 1.0) true; begin(0, 0) 1; edge(1, 2, 0.0) false; degree(0) 30; degree(2) 0; "
                + "steps() 1; sent() 30; pending(1, 0) 1; finish(9) 2; value(2) -1");
    }

    private static void runEnded() {
        String goingOn = PATH + "parts(2) true; begin(1, 0) 3; step() 3; over() false; ";
        String over = PATH + "parts(2) true; begin(0, 0) 1; finish(9) 3; over() true; ";
        says("Each size(), edge() and parts() that is done ends the run:",
            goingOn + "size(3) true; step()" + STATE + "over() false; steps() 0",
            goingOn + "edge(0, 1, 0.5) true; step()" + STATE + "over() false; steps() 0",
            goingOn + "parts(2) true; step()" + STATE + "over() false; steps() 0",
            over + "size(4) true; finish(1)" + STATE + "over() false; value(0) -1",
            over + "edge(2, 0, 0.5) true; finish(1)" + STATE + "over() false; value(0) -1",
            over + "parts(3) true; finish(1)" + STATE + "over() false; value(0) -1",
            goingOn + "size(13) false; edge(2, 2, 1.0) false; parts(5) false; steps() 2; step() 3");
        says("there is none then, and all that is told of a run is as before the first one.",
            PATH + "parts(2) true; " + NO_RUN,
            goingOn + "size(3) true; " + NO_RUN + "begin(1, 0) 0; steps() 1; sent() 0; sum() 3",
            goingOn + "edge(0, 2, 0.5) true; " + NO_RUN + "begin(0, 0) 2; steps() 1; sent() 2; delivered() 2; "
                + "crossed() 1",
            goingOn + "parts(2) true; " + NO_RUN + "begin(0, 0) 1; steps() 1; sent() 1; delivered() 1; crossed() 1",
            over + "size(3) true; " + NO_RUN,
            over + "edge(0, 1, 0.0) true; " + NO_RUN + "begin(0, 0) 1; pending(1, 0) 0",
            over + "parts(1) true; " + NO_RUN + "begin(0, 0) 1; crossed() 0");
    }

    // The promises.

    private static void promises1To4() {
        says("One vertex,",
            "degree(-1) -1; degree(0) 0; degree(1) -1; edge(0, 1, 1.0) false; "
                + "begin(1, 1)" + ARGUMENT + "begin(1, 0) 0; value(0) 0; value(1) -1; begin(3, 0) 0; sum() 1000000");
        says("no edges,",
            "degree(0) 0; begin(1, 0) 0; sent() 0; delivered() 0; over() true");
        says("one part,",
            STAR + "begin(1, 0) 5; pending(4, 0) 0; pending(4, 1) -1; crossed() 0; pending(0, 0) 4; finish(9) 3; "
                + "crossed() 0");
        says("no run.",
            NO_RUN,
            "begin(0, 0) 0; steps() 1; value(0) 0");

        says("n vertices and no edges;",
            "size(4) true; degree(3) 0; degree(4) -1; edge(3, 0, 1.0) true; degree(3) 1; size(4) true; degree(3) 0; "
                + "degree(0) 0; begin(1, 0) 0; value(3) 3; value(4) -1; size(2) true; degree(1) 0; degree(2) -1; "
                + "begin(1, 0) 0; value(2) -1",
            "size(2) true; 30 * edge(0, 1, 1.0) true; edge(0, 1, 1.0) false; size(2) true; 30 * edge(0, 1, 1.0) true; "
                + "edge(0, 1, 1.0) false; degree(0) 30");
        says("false if n is not 1 .. 12.",
            "size(0) false; size(-1) false; size(13) false; size(" + MIN + ") false; size(" + MAX + ") false; "
                + "degree(0) 0; degree(1) -1",
            "size(1) true; degree(1) -1; size(2) true; degree(1) 0; size(11) true; degree(10) 0; degree(11) -1; "
                + "size(12) true; degree(11) 0");

        says("An edge more;",
            PATH + "degree(0) 1; degree(1) 2; degree(2) 1; edge(0, 2, 1.0) true; degree(0) 2; degree(1) 2; "
                + "degree(2) 2; begin(0, 0) 2; pending(1, 0) 0.5; pending(2, 0) 1");
        says("false if a or b is no vertex,",
            "size(3) true; edge(-1, 0, 1.0) false; edge(0, -1, 1.0) false; edge(3, 0, 1.0) false; "
                + "edge(0, 3, 1.0) false; edge(" + MAX + ", 0, 1.0) false; edge(0, " + MIN + ", 1.0) false; "
                + "degree(0) 0; edge(2, 0, 1.0) true; edge(0, 2, 1.0) true; degree(0) 2",
            "edge(0, 1, 1.0) false; edge(1, 0, 1.0) false; edge(1, 2, 1.0) false");
        says("they are the same,",
            "size(3) true; edge(0, 0, 1.0) false; edge(1, 1, 1.0) false; edge(2, 2, 1.0) false; degree(0) 0; "
                + "degree(1) 0; degree(2) 0; edge(1, 2, 1.0) true; edge(1, 0, 1.0) true; degree(1) 2");
        says("w is not from 0 to 1000000,",
            "size(2) true; edge(0, 1, -0.5) false; edge(0, 1, -4.9E-324) false; edge(0, 1, 1000000.0000000001) false; "
                + "edge(0, 1, 1.7976931348623157E308) false; edge(0, 1, NaN) false; edge(0, 1, Infinity) false; "
                + "edge(0, 1, -Infinity) false; degree(0) 0; edge(0, 1, 0.0) true; edge(0, 1, 4.9E-324) true; "
                + "edge(0, 1, 999999.9999999999) true; edge(0, 1, 1000000.0) true; degree(0) 4");
        says("or there are 30.",
            "size(12) true; 29 * edge(0, 11, 1.0) true; edge(1, 2, 1.0) true; edge(3, 4, 1.0) false; "
                + "edge(0, 11, 1.0) false; degree(3) 0; degree(0) 29; degree(1) 1");

        says("k parts;",
            STAR + "parts(1) true; begin(1, 0) 5; parts(4) true; begin(1, 0) 8; pending(4, 3) 3; parts(2) true; "
                + "begin(1, 0) 6; pending(4, 3) -1; parts(3) true; begin(1, 0) 7; pending(4, 2) 2; degree(4) 4");
        says("false if k is not 1 .. 4.",
            STAR + "parts(3) true; parts(0) false; parts(-1) false; parts(5) false; parts(" + MIN + ") false; "
                + "parts(" + MAX + ") false; begin(1, 0) 7",
            "parts(1) true; parts(2) true; parts(3) true; parts(4) true");
    }

    private static void promises5To8() {
        says("Begins a run and does step 0:",
            PATH + "begin(0, 0) 1; steps() 1; over() false; value(0) 0; sent() 1; pending(1, 0) 0.5; step() 1; "
                + "steps() 2",
            PATH + "begin(1, 0) 3; finish(9) 3; begin(2, 2) 1; steps() 1; sent() 1; delivered() 1; value(0) -1; "
                + "value(1) -1; value(2) 0; over() false; pending(0, 0) -1; pending(1, 0) 1; pending(2, 0) -1; "
                + "finish(9) 3; value(0) 2",
            PATH + "begin(1, 0) 3; step() 3; begin(0, 2) 1; steps() 1; sent() 1; delivered() 1; value(0) -1; "
                + "value(1) -1; value(2) 0; pending(0, 0) -1; pending(1, 0) 0.25; pending(2, 0) -1; step() 1; "
                + "value(1) 0.25");
        says("how many messages are to be delivered.",
            PATH + "begin(0, 0) 1; begin(0, 1) 2; begin(0, 2) 1; begin(1, 0) 3; begin(2, 1) 2; begin(3, 1) 2",
            STAR + "begin(1, 0) 5; parts(2) true; begin(1, 0) 6; parts(3) true; begin(1, 0) 7; parts(4) true; "
                + "begin(1, 0) 8; begin(0, 4) 4",
            "begin(0, 0) 0; size(2) true; begin(1, 1) 0; edge(0, 1, 1.0) true; edge(1, 0, 2.0) true; begin(0, 0) 1; "
                + "begin(1, 0) 2");
        says("IllegalArgumentException if there is no such program,",
            PATH + "begin(-1, 0)" + ARGUMENT + "begin(4, 0)" + ARGUMENT
                + "begin(" + MIN + ", 2)" + ARGUMENT + "begin(" + MAX + ", 2)" + ARGUMENT
                + "begin(0, 0) 1; begin(3, 0) 1; begin(4, 0)" + ARGUMENT + "steps() 1");
        says("or no such vertex.",
            PATH + "begin(0, -1)" + ARGUMENT + "begin(1, 3)" + ARGUMENT
                + "begin(2, " + MIN + ")" + ARGUMENT + "begin(3, " + MAX + ")" + ARGUMENT
                + "begin(1, -1)" + ARGUMENT + "begin(0, 3)" + ARGUMENT
                + "begin(0, 12)" + ARGUMENT + "begin(4, 3)" + ARGUMENT
                + "begin(0, 0) 1; begin(0, 2) 1; begin(1, 2) 3",
            "begin(1, 1)" + ARGUMENT + "begin(1, 0) 0");

        says("Does one step more:",
            PATH + "begin(0, 0) 1; steps() 1; step() 1; steps() 2; value(1) 0.5; value(2) -1; step() 2; steps() 3; "
                + "value(2) 0.75; step() 1; steps() 4; over() true");
        says("how many vertices were active.",
            PATH + "begin(0, 0) 1; step() 1; step() 2; step() 1; begin(1, 0) 3; step() 3; step() 3; step() 1; "
                + "over() true",
            STAR + "parts(4) true; begin(1, 0) 8; step() 5; step() 4; step() 1; over() true");
        says("IllegalStateException if there is no run,",
            "step()" + STATE + "steps() 0; begin(0, 0) 0; steps() 1",
            PATH + "step()" + STATE + "begin(0, 0) 1; parts(1) true; step()" + STATE + "begin(0, 0) 1; "
                + "edge(0, 2, 1.0) true; step()" + STATE
                + "begin(0, 0) 2; size(3) true; step()" + STATE);
        says("or it is over.",
            PATH + "begin(0, 0) 1; step() 1; step() 2; step() 1; step()" + STATE + "step()" + STATE + "steps() 4",
            "begin(0, 0) 0; step()" + STATE + "steps() 1; over() true");

        says("Does steps until the run is over, n at most",
            PATH + "begin(0, 0) 1; finish(2) 2; over() false; steps() 3; value(2) 0.75; finish(2) 1; over() true; "
                + "steps() 4; finish(2) 0; steps() 4",
            PATH + "begin(0, 0) 1; finish(3) 3; over() true; steps() 4",
            PATH + "begin(0, 0) 1; finish(4) 3; over() true; steps() 4",
            PATH + "begin(0, 0) 1; finish(" + MAX + ") 3; over() true; sum() 1.25; sent() 4");
        says("(none if n is below 1):",
            PATH + "begin(0, 0) 1; finish(0) 0; finish(-1) 0; finish(" + MIN + ") 0; steps() 1; pending(1, 0) 0.5; "
                + "finish(1) 1; steps() 2",
            "begin(0, 0) 0; finish(0) 0; finish(-1) 0; steps() 1");
        says("how many.",
            PATH + "begin(0, 0) 1; finish(1) 1; finish(1) 1; finish(1) 1; finish(1) 0; begin(1, 0) 3; step() 3; "
                + "finish(9) 2",
            "begin(0, 0) 0; finish(9) 0");
        says("IllegalStateException if there is no run.",
            "finish(1)" + STATE + "finish(0)" + STATE + "finish(-1)" + STATE
                + "finish(" + MAX + ")" + STATE + "steps() 0",
            PATH + "begin(0, 0) 1; parts(1) true; finish(0)" + STATE + "begin(0, 0) 1; size(2) true; finish(9)" + STATE
                + "edge(0, 1, 1.0) true; begin(0, 0) 1; edge(0, 1, 1.0) true; finish(9)" + STATE);

        says("Whether there is a run that is over.",
            PATH + "over() false; begin(0, 0) 1; over() false; finish(2) 2; over() false; step() 1; over() true; "
                + "begin(0, 0) 1; over() false; finish(9) 3; over() true; parts(1) true; over() false",
            "over() false; begin(0, 0) 0; over() true; size(1) true; over() false");
    }

    private static void promises9To12() {
        says("The value of a vertex;",
            DETOUR + "begin(0, 0) 2; value(0) 0; step() 2; value(0) 0; value(1) 10; value(2) 1; step() 3; value(1) 3; "
                + "finish(9) 1; value(1) 3",
            PATH + "begin(1, 0) 3; value(0) 0; value(1) 1; value(2) 2; step() 3; value(1) 0; value(2) 1; step() 3; "
                + "value(2) 0");
        says("-1 if it has none,",
            PATH + "begin(0, 0) 1; value(1) -1; value(2) -1; step() 1; value(2) -1; step() 2; value(2) 0.75",
            "size(3) true; edge(0, 1, 1.0) true; begin(3, 0) 1; finish(9) 2; value(1) 1; value(2) -1");
        says("there is no such vertex,",
            PATH + "begin(1, 0) 3; value(-1) -1; value(3) -1; value(12) -1; value(" + MIN + ") -1; "
                + "value(" + MAX + ") -1; value(2) 2",
            "size(4) true; begin(1, 0) 0; value(3) 3; size(3) true; begin(1, 0) 0; value(3) -1; value(2) 2");
        says("or no run.",
            PATH + "value(0) -1; value(1) -1; begin(1, 0) 3; value(0) 0; value(1) 1; parts(1) true; value(0) -1; "
                + "value(1) -1");

        says("The sum of the values of all vertices that have one, vertex 0 first;",
            "size(4) true; edge(0, 1, 0.1) true; edge(0, 2, 0.2) true; edge(0, 3, 0.3) true; begin(0, 0) 3; "
                + "finish(9) 2; sum() 0.6000000000000001",
            PATH + "begin(0, 1) 2; sum() 0; step() 2; sum() 0.75; begin(1, 0) 3; sum() 3; begin(3, 0) 1; "
                + "sum() 1000000; step() 1; sum() 1000000.5",
            DETOUR + "begin(0, 0) 2; sum() 0; step() 2; sum() 11; step() 3; sum() 4");
        says("0 if there is no run.",
            PATH + "sum() 0; begin(1, 0) 3; sum() 3; edge(0, 1, 1.0) true; sum() 0; begin(3, 0) 1; sum() 1000000; "
                + "size(3) true; sum() 0");

        says("How many steps the run did, step 0 too;",
            PATH + "begin(0, 0) 1; steps() 1; step() 1; steps() 2; finish(1) 1; steps() 3; finish(9) 1; steps() 4; "
                + "begin(1, 0) 3; steps() 1");
        says("0 if there is none.",
            "steps() 0; begin(0, 0) 0; steps() 1; parts(1) true; steps() 0; begin(0, 0) 0; steps() 1; size(2) true; "
                + "steps() 0; begin(0, 0) 0; steps() 1; edge(0, 1, 1.0) true; steps() 0");

        says("How many messages were sent in the run.",
            PATH + "sent() 0; begin(0, 0) 1; sent() 1; step() 1; sent() 3; step() 2; sent() 4; step() 1; sent() 4; "
                + "begin(1, 0) 3; sent() 4; step() 3; sent() 7; step() 3; sent() 8; step() 1; sent() 8; parts(1) true; "
                + "sent() 0",
            "size(2) true; edge(0, 1, 1.0) true; edge(0, 1, 2.0) true; begin(0, 0) 1; sent() 2; step() 1; sent() 4; "
                + "step() 1; sent() 4");
    }

    private static void promises13To16() {
        says("How many were delivered in it, or are to be.",
            DETOUR + "delivered() 0; begin(0, 0) 2; delivered() 2; step() 2; delivered() 5; step() 3; delivered() 7; "
                + "step() 2; delivered() 7; begin(0, 0) 2; delivered() 2; parts(1) true; delivered() 0",
            STAR + "parts(4) true; begin(1, 0) 8; delivered() 8; step() 5; delivered() 12; step() 4; delivered() 15; "
                + "step() 1; delivered() 15",
            STAR + "parts(2) true; begin(1, 0) 6; delivered() 6; step() 5; delivered() 10; step() 4; delivered() 12; "
                + "step() 1; delivered() 12; sent() 15");

        says("How many of these crossed.",
            STAR + "crossed() 0; parts(4) true; begin(1, 0) 8; crossed() 6; step() 5; crossed() 9; step() 4; "
                + "crossed() 12; step() 1; crossed() 12; begin(1, 0) 8; crossed() 6; parts(4) true; crossed() 0",
            STAR + "parts(2) true; begin(1, 0) 6; crossed() 3; step() 5; crossed() 5; step() 4; crossed() 6; step() 1; "
                + "crossed() 6",
            STAR + "parts(1) true; begin(1, 0) 5; finish(9) 3; crossed() 0");

        says("What is to be delivered to vertex v from part p in the next step;",
            STAR + "parts(2) true; begin(1, 0) 6; pending(4, 0) 0; pending(4, 1) 1; pending(0, 0) 4; pending(1, 0) 4; "
                + "pending(3, 0) 4; step() 5; pending(0, 0) 0; pending(3, 0) 0; step() 4; pending(4, 0) 0; "
                + "pending(4, 1) 0",
            WIDER + "parts(3) true; begin(3, 0) 2; pending(1, 0) 2; pending(2, 0) 9; step() 2; pending(0, 1) 2; "
                + "pending(0, 2) 9; pending(1, 2) 5; pending(2, 1) 2");
        says("-1 if nothing is,",
            PATH + "parts(2) true; pending(1, 0) -1; begin(0, 0) 1; pending(1, 0) 0.5; pending(1, 1) -1; "
                + "pending(0, 0) -1; pending(2, 0) -1; step() 1; pending(1, 0) -1; pending(0, 1) 1; pending(0, 0) -1; "
                + "finish(9) 2; pending(0, 1) -1; pending(1, 0) -1; pending(2, 1) -1",
            PATH + "begin(1, 0) 3; pending(1, 0) 0; parts(1) true; pending(1, 0) -1; pending(0, 0) -1");
        says("or there is no such vertex or part.",
            STAR + "parts(2) true; begin(1, 0) 6; pending(5, 0) -1; pending(-1, 0) -1; pending(12, 1) -1; "
                + "pending(" + MIN + ", 0) -1; pending(" + MAX + ", 0) -1; pending(4, 2) -1; pending(4, -1) -1; "
                + "pending(4, 4) -1; pending(4, " + MIN + ") -1; pending(4, " + MAX + ") -1; pending(5, 2) -1; "
                + "pending(4, 1) 1",
            STAR + "parts(4) true; begin(1, 0) 8; pending(4, 3) 3; parts(2) true; begin(1, 0) 6; pending(4, 3) -1; "
                + "pending(4, 2) -1",
            "size(3) true; edge(0, 2, 1.0) true; begin(0, 0) 1; pending(2, 0) 1; size(2) true; begin(1, 0) 0; "
                + "pending(2, 0) -1");

        says("The number of edges of a vertex;",
            PATH + "degree(0) 1; degree(1) 2; degree(2) 1; edge(2, 1, 9.0) true; degree(1) 3; degree(2) 2; "
                + "begin(1, 0) 3; degree(1) 3; step() 3; degree(1) 3; parts(3) true; degree(1) 3",
            STAR + "degree(4) 4; degree(0) 1; degree(3) 1",
            "degree(0) 0");
        says("-1 if there is no such vertex.",
            "degree(-1) -1; degree(1) -1; degree(" + MIN + ") -1; degree(" + MAX + ") -1",
            PATH + "degree(-1) -1; degree(3) -1; degree(12) -1; degree(2) 1",
            "size(12) true; edge(0, 11, 1.0) true; degree(11) 1; degree(12) -1; size(11) true; degree(11) -1; "
                + "degree(10) 0");
    }

    private static void notPromised() {
        free("How the state is held inside the object is free, as are the speed of each call, the text of toString and "
            + "the behaviour of equals and hashCode.");
        free("Use of one object from several threads at once is not promised to be safe.");
        free("Nothing is promised beyond the answers and state changes described above, "
            + "and nothing about an object after its 512th call.");
    }

    // The document's words and the runs behind them.

    /** Words that leave something free, so that no answer could be wrong. */
    private static void free(String text) {
        words.append(' ').append(text);
    }

    private static void says(String text, String... runsOfCalls) {
        words.append(' ').append(text);
        for (String calls : runsOfCalls) {
            runs++;
            run(text, calls);
        }
    }

    // A run is told as "size(2) true; 3 * edge(0, 1, 1.0) true; degree(0) 3".
    private static void run(String text, String calls) {
        StepGraphCalls graph = new StepGraphCalls();
        for (String told : calls.split(";")) {
            String call = told.trim();
            if (call.isEmpty()) {
                continue;
            }
            int times = 1;
            int star = call.indexOf(" * ");
            if (star >= 0) {
                times = Integer.parseInt(call.substring(0, star));
                call = call.substring(star + 3);
            }
            int close = call.indexOf(')');
            for (int i = 0; i < times; i++) {
                due(text, calls, graph, call.substring(0, close + 1), call.substring(close + 1).trim());
            }
        }
    }

    private static void due(String text, String calls, StepGraphCalls graph, String call, String want) {
        Object got = graph.answer(call);
        if (!StepGraphCalls.isSame(got, want)) {
            wrong++;
            System.out.println("\"" + text + "\": " + call + " answered " + got + ", due is " + want
                + ", in: " + calls);
        }
    }

    // Headings, the face (a test of its own has it) and each promise's head say no more than the words do.
    private static void besideTheDocument() throws IOException {
        if (!Files.exists(DOCUMENT)) {
            System.out.println("not laid beside the document: there is no " + DOCUMENT);
            return;
        }
        String document = Files.readString(DOCUMENT, StandardCharsets.UTF_8)
            .replaceAll("(?s)```java.*?```", " ").replaceAll("```(text)?", " ")
            .replaceAll("(?m)^#.*$", " ").replaceAll("(?m)^`[^`]*`:", " ");
        String due = inOneLine(document);
        String got = inOneLine(words.toString());
        if (!got.equals(due)) {
            wrong++;
            int same = 0;
            while (same < got.length() && same < due.length() && got.charAt(same) == due.charAt(same)) {
                same++;
            }
            System.out.println("the document goes on: " + from(due, same) + "\nbut the test with: " + from(got, same));
        }
    }

    private static String inOneLine(String text) {
        return text.replaceAll("\\s+", " ").trim();
    }

    private static String from(String text, int start) {
        return text.substring(Math.max(0, start - 20), Math.min(text.length(), start + 100));
    }
}
