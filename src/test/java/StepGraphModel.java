import java.util.ArrayList;
import java.util.List;
import java.util.Map;
import java.util.TreeMap;

/**
 * Long runs of mixed calls, each answer compared with a slow model that keeps every message by
 * itself and combines them only when it is asked.
 */
public final class StepGraphModel {
    private static final int RUNS = 4000;
    // Each call is followed by looks: 64 * (1 + 7) are the 512 calls that an object is good for.
    private static final int CALLS = 64;
    private static final int LOOKS = 7;
    private static final int SECONDS_AT_MOST = 120;
    private static final double[] WEIGHTS = {0.0, -0.0, 0.1, 0.25, 0.3, 0.5, 1.0, 2.0, 3.0, 7.5, 999999.5, 1000000.0,
        -0.5, 1000000.5, Double.NaN, Double.POSITIVE_INFINITY};
    private static final int[] FAR = {-1, -7, 4, 12, 99, Integer.MIN_VALUE, Integer.MAX_VALUE};

    private static int wrong = 0;
    // A generator of its own keeps the runs the same on every machine.
    private static long seed = 20261116L;

    private record Edge(int a, int b, double w) { }

    private record Message(int from, int to, double x) { }

    private record Key(int part, int to) implements Comparable<Key> {
        public int compareTo(Key other) {
            return part != other.part ? Integer.compare(part, other.part) : Integer.compare(to, other.to);
        }
    }

    private static final class Model {
        int n = 1;
        int k = 1;
        List<Edge> edges = new ArrayList<>();
        Run run = null;

        boolean size(int n) {
            if (n < 1 || n > 12) {
                return false;
            }
            this.n = n;
            edges = new ArrayList<>();
            run = null;
            return true;
        }

        boolean edge(int a, int b, double w) {
            boolean vertices = 0 <= a && a < n && 0 <= b && b < n && a != b;
            if (!vertices || !(0 <= w && w <= 1000000) || edges.size() == 30) {
                return false;
            }
            edges.add(new Edge(a, b, w + 0.0));
            run = null;
            return true;
        }

        boolean parts(int k) {
            if (k < 1 || k > 4) {
                return false;
            }
            this.k = k;
            run = null;
            return true;
        }

        double begin(int program, int source) {
            if (program < 0 || program > 3 || source < 0 || source >= n) {
                throw new IllegalArgumentException();
            }
            run = new Run(this, program, source);
            return run.due().size();
        }

        double step() {
            if (run == null || run.due().isEmpty()) {
                throw new IllegalStateException();
            }
            return run.step();
        }

        double finish(int n) {
            if (run == null) {
                throw new IllegalStateException();
            }
            int done = 0;
            while (done < n && !run.due().isEmpty()) {
                run.step();
                done++;
            }
            return done;
        }

        double value(int v) {
            return run == null || v < 0 || v >= n || run.values[v] == null ? -1 : run.values[v];
        }

        double pending(int v, int p) {
            return run == null ? -1 : run.due().getOrDefault(new Key(p, v), -1.0);
        }

        double degree(int v) {
            return v < 0 || v >= n ? -1 : edges.stream().filter(e -> e.a == v || e.b == v).count();
        }
    }

    private static final class Run {
        final Model graph;
        final int program;
        final Double[] values;
        final List<List<Message>> bySteps = new ArrayList<>();

        Run(Model graph, int program, int source) {
            this.graph = graph;
            this.program = program;
            values = new Double[graph.n];
            List<Message> out = new ArrayList<>();
            for (int v = 0; v < graph.n; v++) {
                values[v] = program == 1 ? Double.valueOf(v)
                    : v != source ? null : Double.valueOf(program == 3 ? 1000000 : 0);
                if (values[v] != null) {
                    send(v, out);
                }
            }
            bySteps.add(out);
        }

        void send(int v, List<Message> out) {
            for (Edge e : graph.edges) {
                if (e.a == v || e.b == v) {
                    out.add(new Message(v, e.a == v ? e.b : e.a, along(values[v], e.w)));
                }
            }
        }

        double along(double x, double w) {
            return switch (program) {
                case 0 -> x + w;
                case 1 -> x;
                case 2 -> x + 1;
                default -> Math.min(x, w);
            };
        }

        double best(double x, double y) {
            return program == 3 ? Math.max(x, y) : Math.min(x, y);
        }

        Map<Key, Double> combined(List<Message> messages) {
            Map<Key, Double> all = new TreeMap<>();
            for (Message m : messages) {
                all.merge(new Key(m.from % graph.k, m.to), m.x, this::best);
            }
            return all;
        }

        Map<Key, Double> due() {
            return combined(bySteps.get(bySteps.size() - 1));
        }

        int step() {
            Map<Integer, Double> inbox = new TreeMap<>();
            due().forEach((key, x) -> inbox.merge(key.to, x, this::best));
            List<Message> out = new ArrayList<>();
            inbox.forEach((v, x) -> {
                if (values[v] == null || best(x, values[v]) != values[v]) {
                    values[v] = x;
                    send(v, out);
                }
            });
            bySteps.add(out);
            return inbox.size();
        }

        double sum() {
            double total = 0;
            for (Double x : values) {
                total += x == null ? 0 : x;
            }
            return total;
        }

        int sent() {
            return bySteps.stream().mapToInt(List::size).sum();
        }

        int delivered() {
            return bySteps.stream().mapToInt(m -> combined(m).size()).sum();
        }

        long crossed() {
            return bySteps.stream().mapToLong(m -> combined(m).keySet().stream()
                .filter(key -> key.to % graph.k != key.part).count()).sum();
        }
    }

    private interface Call {
        double answer();
    }

    public static void main(String[] args) {
        failIfStillRunning();
        for (int run = 1; run <= RUNS && wrong < 20; run++) {
            mixedCalls(run);
        }
        System.out.println(wrong == 0 ? "all answers are the model's" : wrong + " answers are not the model's");
        if (wrong != 0) {
            System.exit(1);
        }
    }

    // A call that does not end is a fault like any other, and must not keep the tests from ending.
    private static void failIfStillRunning() {
        Thread watch = new Thread(() -> {
            try {
                Thread.sleep(SECONDS_AT_MOST * 1000L);
            } catch (InterruptedException e) {
                return;
            }
            System.out.println("no end after " + SECONDS_AT_MOST + " seconds");
            Runtime.getRuntime().halt(1);
        });
        watch.setDaemon(true);
        watch.start();
    }

    // Calls that change the graph end the run, so they are rare once it has been built.
    private static void mixedCalls(int run) {
        StepGraph x = new StepGraph();
        Model m = new Model();
        int building = pick(60);
        for (int call = 1; call <= CALLS && wrong < 20; call++) {
            String where = "run " + run + ", call " + call + ": ";
            if (call <= building || pick(25) == 0) {
                change(where, x, m, call == 1);
            } else {
                work(where, x, m);
            }
            for (int look = 0; look < LOOKS; look++) {
                lookAt(where, x, m, m.run);
            }
        }
    }

    private static void change(String where, StepGraph x, Model m, boolean first) {
        int kind = first ? 0 : pick(30);
        if (kind == 0) {
            int n = odd() ? far() : pick(14);
            same(where + "size(" + n + ")", () -> bit(x.size(n)), () -> bit(m.size(n)));
        } else if (kind < 4) {
            int k = odd() ? far() : pick(6);
            same(where + "parts(" + k + ")", () -> bit(x.parts(k)), () -> bit(m.parts(k)));
        } else {
            int a = odd() ? far() : pick(m.n + 1);
            int b = odd() ? far() : pick(m.n);
            double w = WEIGHTS[pick(odd() ? WEIGHTS.length : 12)];
            same(where + "edge(" + a + ", " + b + ", " + w + ")", () -> bit(x.edge(a, b, w)), () -> bit(m.edge(a, b, w)));
        }
    }

    private static void work(String where, StepGraph x, Model m) {
        int kind = pick(10);
        if (kind < 3) {
            int program = odd() ? far() : pick(4);
            int source = odd() ? far() : pick(m.n);
            same(where + "begin(" + program + ", " + source + ")", () -> x.begin(program, source), () -> m.begin(program, source));
        } else if (kind < 8) {
            same(where + "step()", () -> x.step(), () -> m.step());
        } else {
            int n = odd() ? far() : pick(5);
            same(where + "finish(" + n + ")", () -> x.finish(n), () -> m.finish(n));
        }
    }

    private static void lookAt(String where, StepGraph x, Model m, Run r) {
        int v = odd() ? far() : pick(m.n + 1);
        int p = odd() ? far() : pick(m.k + 1);
        switch (pick(13)) {
            case 0 -> same(where + "over()", () -> bit(x.over()), () -> bit(r != null && r.due().isEmpty()));
            case 1 -> same(where + "sum()", () -> x.sum(), () -> r == null ? 0 : r.sum());
            case 2 -> same(where + "steps()", () -> x.steps(), () -> r == null ? 0 : r.bySteps.size());
            case 3 -> same(where + "sent()", () -> x.sent(), () -> r == null ? 0 : r.sent());
            case 4 -> same(where + "delivered()", () -> x.delivered(), () -> r == null ? 0 : r.delivered());
            case 5 -> same(where + "crossed()", () -> x.crossed(), () -> r == null ? 0 : r.crossed());
            case 6 -> same(where + "degree(" + v + ")", () -> x.degree(v), () -> m.degree(v));
            case 7, 8, 9 -> same(where + "value(" + v + ")", () -> x.value(v), () -> m.value(v));
            default -> same(where + "pending(" + v + ", " + p + ")", () -> x.pending(v, p), () -> m.pending(v, p));
        }
    }

    private static void same(String call, Call got, Call want) {
        String told = told(got);
        String due = told(want);
        if (!told.equals(due)) {
            wrong++;
            System.out.println(call + " answered " + told + ", due is " + due);
        }
    }

    private static String told(Call call) {
        try {
            return Double.toString(call.answer());
        } catch (RuntimeException e) {
            return "throws." + e.getClass().getSimpleName();
        }
    }

    private static double bit(boolean b) {
        return b ? 1 : 0;
    }

    private static boolean odd() {
        return pick(20) == 0;
    }

    private static int far() {
        return FAR[pick(FAR.length)];
    }

    private static int pick(int bound) {
        seed = seed * 6364136223846793005L + 1442695040888963407L;
        return (int) ((seed >>> 33) % bound);
    }
}
