import java.lang.reflect.Constructor;
import java.lang.reflect.Field;
import java.lang.reflect.Method;
import java.lang.reflect.Modifier;
import java.util.Map;
import java.util.TreeMap;

/** The public face of the document, and rule 1 of LANGUAGE.md: nothing else can be seen from outside. */
public final class FaceTest {
    public static void main(String[] args) {
        Class<?> c = FlightDesk.class;
        Desk.due("public and final", c.getModifiers(), Modifier.PUBLIC | Modifier.FINAL);
        Desk.due("constructors", c.getDeclaredConstructors().length, 1);
        for (Constructor<?> made : c.getDeclaredConstructors()) {
            Desk.due("constructor", made.getModifiers(), Modifier.PUBLIC);
            Desk.due("constructor's parameters", made.getParameterCount(), 0);
        }
        fields(c);
        methods(c);
        for (Class<?> inside : c.getDeclaredClasses()) {
            int open = inside.getModifiers() & (Modifier.PUBLIC | Modifier.PROTECTED);
            Desk.due(inside + " is hidden", open, 0);
            Desk.due(inside + " is static", inside.getModifiers() & Modifier.STATIC, Modifier.STATIC);
        }
        Desk.due("REFUSED", FlightDesk.REFUSED, -1000);
        Desk.finish();
    }

    private static void fields(Class<?> c) {
        for (Field f : c.getDeclaredFields()) {
            boolean constant = f.getName().equals("REFUSED");
            int wanted = constant ? Modifier.PUBLIC | Modifier.STATIC | Modifier.FINAL : Modifier.PRIVATE;
            int seen = constant ? f.getModifiers() : f.getModifiers() & ~(Modifier.STATIC | Modifier.FINAL);
            Desk.due("field " + f.getName(), seen, wanted);
        }
    }

    private static void methods(Class<?> c) {
        Map<String, Integer> face = new TreeMap<>(Map.of("uplink", 1, "tick", 0, "report", 1, "take", 0,
                "parameter", 1, "planned", 1, "plannedService", 1, "watch", 1, "action", 1, "count", 1));
        face.put("sense", 2);
        for (Method m : c.getDeclaredMethods()) {
            Integer parameters = face.remove(m.getName());
            if (parameters == null) {
                Desk.due(m + " is private", m.getModifiers() & Modifier.PRIVATE, Modifier.PRIVATE);
                continue;
            }
            Desk.due(m + " is public", m.getModifiers(), Modifier.PUBLIC);
            Desk.due(m + "'s parameters", m.getParameterCount(), parameters);
            Desk.due(m + " answers int", m.getReturnType() == int.class ? 1 : 0, 1);
            for (Class<?> type : m.getParameterTypes()) {
                Desk.due(m + " takes int", type == int.class ? 1 : 0, 1);
            }
        }
        Desk.due("methods missing " + face.keySet(), face.size(), 0);
    }
}
