import java.lang.reflect.Constructor;
import java.lang.reflect.Field;
import java.lang.reflect.Method;
import java.lang.reflect.Modifier;
import java.util.ArrayList;
import java.util.Arrays;
import java.util.Collections;
import java.util.List;
import java.util.StringJoiner;

/** The class shows the document's face and nothing more. */
public final class FaceTest {
    private static final String[] FACE = {
        "born(int)", "came(int,int)", "click(int,int,int)", "count(int)", "digest()",
        "funnel(boolean,int,int)", "join(int,int)", "person(int,int)", "reach(int,int)",
        "reached(int,int)", "row(int,int)", "rule(int,int)", "sitting(int,int,int)",
        "step(int,int)", "strike(int,boolean)", "told(int,int)", "way(int,int,int,int)",
        "ways(int,int)"};
    private static final String[] CONSTANTS = {"FULL", "NONE", "NOT", "OUTSIDE", "UNKNOWN"};

    public static void main(String[] args) {
        Due due = new Due("FaceTest");
        constants(due);
        members(due);
        due.end();
    }

    private static void constants(Due due) {
        due.is("NONE", SittingDesk.NONE, -1);
        due.is("UNKNOWN", SittingDesk.UNKNOWN, -1001);
        due.is("OUTSIDE", SittingDesk.OUTSIDE, -1002);
        due.is("NOT", SittingDesk.NOT, -1003);
        due.is("FULL", SittingDesk.FULL, -1004);
    }

    private static void members(Due due) {
        due.is("public and final", SittingDesk.class.getModifiers(), Modifier.PUBLIC | Modifier.FINAL);
        List<String> shown = new ArrayList<>();
        List<String> hidden = new ArrayList<>();
        for (Method m : SittingDesk.class.getDeclaredMethods()) {
            boolean isPrivate = Modifier.isPrivate(m.getModifiers());
            (isPrivate ? hidden : shown).add(isPrivate ? m.getName() : told(m));
            if (!isPrivate) {
                due.is(m.getName() + " is a public method of the object", m.getModifiers(), Modifier.PUBLIC);
                due.is(m.getName() + " answers an int", m.getReturnType() == int.class ? 1 : 0, 1);
            }
        }
        Collections.sort(shown);
        same(due, "methods", shown, Arrays.asList(FACE));
        for (String method : FACE) {
            String name = method.substring(0, method.indexOf('('));
            due.is("private methods named " + name, Collections.frequency(hidden, name), 0);
        }
        List<String> fields = new ArrayList<>();
        for (Field f : SittingDesk.class.getDeclaredFields()) {
            if (!Modifier.isPrivate(f.getModifiers())) {
                fields.add(f.getName());
                due.is(f.getName() + " is a constant", f.getModifiers(),
                    Modifier.PUBLIC | Modifier.STATIC | Modifier.FINAL);
            }
        }
        Collections.sort(fields);
        same(due, "fields", fields, Arrays.asList(CONSTANTS));
        Constructor<?>[] makers = SittingDesk.class.getDeclaredConstructors();
        due.is("constructors", makers.length, 1);
        due.is("public constructor", makers[0].getModifiers(), Modifier.PUBLIC);
        due.is("parameters of the constructor", makers[0].getParameterCount(), 0);
    }

    private static void same(Due due, String what, List<String> got, List<String> want) {
        due.is(what + " " + got + " for " + want, got.equals(want) ? 1 : 0, 1);
    }

    private static String told(Method m) {
        StringJoiner types = new StringJoiner(",", m.getName() + "(", ")");
        for (Class<?> type : m.getParameterTypes()) {
            types.add(type.getName());
        }
        return types.toString();
    }
}
