import java.lang.reflect.Constructor;
import java.lang.reflect.Field;
import java.lang.reflect.Method;
import java.lang.reflect.Modifier;
import java.util.Map;
import java.util.TreeMap;

/** The public face of the document; of LANGUAGE.md rule 1, and of rule 5 that static fields are final. */
public final class FaceTest {
    private static final Map<String, Integer> FACE = Map.ofEntries(Map.entry("uplink", 1), Map.entry("tick", 0),
            Map.entry("report", 1), Map.entry("take", 0), Map.entry("parameter", 1), Map.entry("sense", 2),
            Map.entry("planned", 1), Map.entry("plannedService", 1), Map.entry("watch", 1), Map.entry("action", 1),
            Map.entry("count", 1));

    public static void main(String[] args) {
        Class<?> c = FlightDesk.class;
        Desk.due("public and final", c.getModifiers(), Modifier.PUBLIC | Modifier.FINAL);
        Desk.due("constructors", c.getDeclaredConstructors().length, 1);
        for (Constructor<?> made : c.getDeclaredConstructors()) {
            Desk.due("constructor", made.getModifiers(), Modifier.PUBLIC);
            Desk.due("constructor's parameters", made.getParameterCount(), 0);
        }
        fields(c);
        methods(c);
        staticsAreFinal(c);
        for (Class<?> inside : c.getDeclaredClasses()) {
            staticsAreFinal(inside);
            for (Method m : inside.getDeclaredMethods()) {
                Desk.due(m + " bears a public name", FACE.containsKey(m.getName()) ? 1 : 0, 0);
            }
            int open = inside.getModifiers() & (Modifier.PUBLIC | Modifier.PROTECTED);
            Desk.due(inside + " is hidden", open, 0);
            Desk.due(inside + " is static", inside.getModifiers() & Modifier.STATIC, Modifier.STATIC);
        }
        Desk.due("REFUSED", FlightDesk.REFUSED, -1000);
        Desk.finish();
    }

    private static void fields(Class<?> c) {
        for (Field f : c.getDeclaredFields()) {
            boolean constant = f.getName().equals("REFUSED");
            int wanted = constant ? Modifier.PUBLIC | Modifier.STATIC | Modifier.FINAL : Modifier.PRIVATE;
            int seen = constant ? f.getModifiers() : f.getModifiers() & ~(Modifier.STATIC | Modifier.FINAL);
            Desk.due("field " + f.getName(), seen, wanted);
        }
    }

    private static void methods(Class<?> c) {
        Map<String, Integer> missing = new TreeMap<>(FACE);
        for (Method m : c.getDeclaredMethods()) {
            Integer parameters = missing.remove(m.getName());
            if (parameters == null) {
                Desk.due(m + " is private", m.getModifiers() & Modifier.PRIVATE, Modifier.PRIVATE);
                Desk.due(m + " bears a public name", FACE.containsKey(m.getName()) ? 1 : 0, 0);
                continue;
            }
            Desk.due(m + " is public", m.getModifiers(), Modifier.PUBLIC);
            Desk.due(m + "'s parameters", m.getParameterCount(), parameters);
            Desk.due(m + " answers int", m.getReturnType() == int.class ? 1 : 0, 1);
            for (Class<?> type : m.getParameterTypes()) {
                Desk.due(m + " takes int", type == int.class ? 1 : 0, 1);
            }
        }
        Desk.due("methods missing " + missing.keySet(), missing.size(), 0);
    }

    /** A state that objects share would let one run change the answers of another. */
    private static void staticsAreFinal(Class<?> c) {
        for (Field f : c.getDeclaredFields()) {
            int both = Modifier.STATIC | Modifier.FINAL;
            Desk.due(f + " is static and not final", (f.getModifiers() & both) == Modifier.STATIC ? 1 : 0, 0);
        }
    }
}
