import java.lang.reflect.Constructor;
import java.lang.reflect.Field;
import java.lang.reflect.Method;
import java.lang.reflect.Modifier;
import java.util.Set;
import java.util.TreeSet;

/** The public face, as the document writes it, and nothing else that can be seen from outside. */
public final class FaceTest {
    private static final String[] METHODS = {
        "boolean follows(int, int, long)",
        "int ticket(int, int, long, long, long, int)",
        "int correct(int, int, long, int)",
        "int voids(int, int)",
        "long at(int, int)",
        "int number(int)",
        "int gap(int)",
        "int rows()",
        "int made()",
        "boolean split(int, int, long)",
        "long share(int, int)",
        "int print(int, int)",
        "boolean poke(int, int, int)",
        "int byteAt(int, int) throws java.lang.ArrayIndexOutOfBoundsException",
        "int digest(int, int)",
        "int check(int)",
        "int root(int, int)",
    };

    public static void main(String[] args) {
        Due.is("NONE", TicketChain.NONE, -1);
        Due.is("SPOILED", TicketChain.SPOILED, -2);
        int modifiers = TicketChain.class.getModifiers();
        Due.is("the class is public and final", Modifier.isPublic(modifiers) && Modifier.isFinal(modifiers), true);
        constructors();
        fields();
        methods();
        Due.end();
    }

    private static void constructors() {
        Constructor<?>[] all = TicketChain.class.getDeclaredConstructors();
        Due.is("how many constructors", all.length, 1);
        Due.is("the constructor", all[0].toString(), "public TicketChain()");
    }

    private static void fields() {
        Set<String> seen = new TreeSet<>();
        for (Field field : TicketChain.class.getDeclaredFields()) {
            if (!Modifier.isPrivate(field.getModifiers())) {
                seen.add(field.toString());
            }
        }
        Set<String> due = new TreeSet<>();
        due.add("public static final int TicketChain.NONE");
        due.add("public static final int TicketChain.SPOILED");
        Due.is("the constants", seen.toString(), due.toString());
    }

    private static void methods() {
        Set<String> seen = new TreeSet<>();
        Set<String> open = new TreeSet<>();
        Set<String> hidden = new TreeSet<>();
        for (Method method : TicketChain.class.getDeclaredMethods()) {
            if (Modifier.isPrivate(method.getModifiers())) {
                hidden.add(method.getName());
            } else {
                seen.add(method.toString());
                open.add(method.getName());
            }
        }
        Set<String> due = new TreeSet<>();
        for (String method : METHODS) {
            int name = method.indexOf(' ') + 1;
            due.add("public " + method.substring(0, name) + "TicketChain."
                + method.substring(name).replace(", ", ","));
        }
        Due.is("the methods", seen.toString(), due.toString());
        hidden.retainAll(open);
        Due.is("private methods that bear the name of a public one", hidden.toString(), "[]");
    }
}
