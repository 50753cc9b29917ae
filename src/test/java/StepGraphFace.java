import java.lang.reflect.Constructor;
import java.lang.reflect.Field;
import java.lang.reflect.Method;
import java.lang.reflect.Modifier;
import java.util.Arrays;
import java.util.TreeSet;

/** The class shows the document's face and no other member that is not private. */
public final class StepGraphFace {
    private static final String[] FACE = {
        "public boolean StepGraph.size(int)",
        "public boolean StepGraph.edge(int,int,double)",
        "public boolean StepGraph.parts(int)",
        "public int StepGraph.begin(int,int) throws java.lang.IllegalArgumentException",
        "public int StepGraph.step() throws java.lang.IllegalStateException",
        "public int StepGraph.finish(int) throws java.lang.IllegalStateException",
        "public boolean StepGraph.over()",
        "public double StepGraph.value(int)",
        "public double StepGraph.sum()",
        "public int StepGraph.steps()",
        "public int StepGraph.sent()",
        "public int StepGraph.delivered()",
        "public int StepGraph.crossed()",
        "public double StepGraph.pending(int,int)",
        "public int StepGraph.degree(int)",
    };

    private static int wrong = 0;

    public static void main(String[] args) {
        due("the class is public and final",
            StepGraph.class.getModifiers() == (Modifier.PUBLIC | Modifier.FINAL));
        constructors();
        methods();
        fields();
        System.out.println(wrong == 0 ? "the face is as due" : wrong + " of the face is not as due");
        if (wrong != 0) {
            System.exit(1);
        }
    }

    private static void constructors() {
        Constructor<?>[] all = StepGraph.class.getDeclaredConstructors();
        due("one public constructor without parameters", all.length == 1
            && Modifier.isPublic(all[0].getModifiers()) && all[0].getParameterCount() == 0);
    }

    private static void methods() {
        TreeSet<String> shown = new TreeSet<>();
        TreeSet<String> publicNames = new TreeSet<>();
        for (Method m : StepGraph.class.getDeclaredMethods()) {
            if (!Modifier.isPrivate(m.getModifiers())) {
                shown.add(m.toGenericString());
                publicNames.add(m.getName());
            }
        }
        due("the methods shown: " + shown, shown.equals(new TreeSet<>(Arrays.asList(FACE))));
        for (Method m : StepGraph.class.getDeclaredMethods()) {
            if (Modifier.isPrivate(m.getModifiers())) {
                due("the private " + m.getName() + " bears a name of its own", !publicNames.contains(m.getName()));
            }
        }
    }

    private static void fields() {
        for (Field f : StepGraph.class.getDeclaredFields()) {
            due("the field " + f.getName() + " is private", Modifier.isPrivate(f.getModifiers()));
            due("the static field " + f.getName() + " is a constant that the language allows",
                !Modifier.isStatic(f.getModifiers())
                    || Modifier.isFinal(f.getModifiers()) && f.getType() == int.class);
        }
    }

    private static void due(String what, boolean holds) {
        if (!holds) {
            wrong++;
            System.out.println("not so: " + what);
        }
    }
}
