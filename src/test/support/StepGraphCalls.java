import java.lang.reflect.InvocationTargetException;
import java.lang.reflect.Method;
import java.lang.reflect.Modifier;
import java.util.Set;
import java.util.TreeSet;

/** A graph whose calls are told as a text, like "edge(0, 1, 0.5)", and are counted. */
final class StepGraphCalls {
    /** The document says nothing of an object behind so many. */
    private static final int CALLS_OF_AN_OBJECT = 512;
    private static final int SECONDS_AT_MOST = 120;

    private final StepGraph graph = new StepGraph();
    private int calls = 0;

    /** The names of all calls that the class shows. */
    static Set<String> names() {
        Set<String> names = new TreeSet<>();
        for (Method method : StepGraph.class.getDeclaredMethods()) {
            if (Modifier.isPublic(method.getModifiers())) {
                names.add(method.getName());
            }
        }
        return names;
    }

    /** What the call answered; a text like "throws.IllegalStateException" if it threw. */
    Object answer(String call) {
        calls++;
        if (calls > CALLS_OF_AN_OBJECT) {
            throw new IllegalStateException("a test makes too many calls on one object");
        }
        int open = call.indexOf('(');
        if (open < 0 || !call.endsWith(")")) {
            throw new IllegalArgumentException("no call: " + call);
        }
        String arguments = call.substring(open + 1, call.length() - 1).trim();
        return answer(call.substring(0, open).trim(), arguments.isEmpty() ? new String[0] : arguments.split(","));
    }

    private Object answer(String name, String[] arguments) {
        for (Method method : StepGraph.class.getDeclaredMethods()) {
            if (method.getName().equals(name) && Modifier.isPublic(method.getModifiers())
                && method.getParameterCount() == arguments.length) {
                return answer(method, arguments);
            }
        }
        throw new IllegalArgumentException("the class has no " + name + " of " + arguments.length);
    }

    private Object answer(Method method, String[] arguments) {
        Object[] values = new Object[arguments.length];
        for (int i = 0; i < values.length; i++) {
            String text = arguments[i].trim();
            boolean whole = method.getParameterTypes()[i] == int.class;
            values[i] = whole ? (Object) Integer.parseInt(text) : (Object) Double.parseDouble(text);
        }
        try {
            return method.invoke(graph, values);
        } catch (InvocationTargetException e) {
            return "throws." + e.getCause().getClass().getSimpleName();
        } catch (IllegalAccessException e) {
            throw new IllegalStateException(e);
        }
    }

    /** A double may be told as any text of the same number, but 0.0 is not -0.0. */
    static boolean isSame(Object got, String want) {
        if (got instanceof Double number && want.matches("-?[0-9].*")) {
            return Double.compare(number, Double.parseDouble(want)) == 0;
        }
        return String.valueOf(got).equals(want);
    }

    // A call that does not end is a fault like any other, and must not keep the tests from ending.
    static void failIfStillRunning() {
        Thread watch = new Thread(() -> {
            try {
                Thread.sleep(SECONDS_AT_MOST * 1000L);
            } catch (InterruptedException e) {
                return;
            }
            System.out.println("no end after " + SECONDS_AT_MOST + " seconds");
            Runtime.getRuntime().halt(1);
        });
        watch.setDaemon(true);
        watch.start();
    }
}
