import java.lang.reflect.Constructor;
import java.lang.reflect.Field;
import java.lang.reflect.Method;
import java.lang.reflect.Modifier;
import java.util.Set;
import java.util.TreeSet;

/** The face has every constant, constructor and method of the document, and no others. */
public final class ControlDeskFace {
    private static final Set<String> DUE = Set.of(
        "public static final int NONE = -1",
        "public static final int DONE = 0",
        "public static final int ELSEWHERE = 1",
        "public static final int ILLEGAL = 2",
        "public static final int WAIT = 0",
        "public static final int FENCE = 1",
        "public ControlDesk(int)",
        "public int ControlDesk.mode()",
        "public int ControlDesk.dataMode()",
        "public int ControlDesk.access(int,int,boolean,long) throws java.lang.IllegalArgumentException",
        "public long ControlDesk.had()",
        "public long ControlDesk.peek(int)",
        "public long ControlDesk.trap(boolean,int,long,long) throws java.lang.IllegalArgumentException",
        "public boolean ControlDesk.back(boolean)",
        "public long ControlDesk.place()",
        "public int ControlDesk.taken()",
        "public boolean ControlDesk.wakes()",
        "public void ControlDesk.line(int,boolean) throws java.lang.IllegalArgumentException",
        "public boolean ControlDesk.allowed(int) throws java.lang.IllegalArgumentException",
        "public boolean ControlDesk.floats()",
        "public void ControlDesk.dirty()",
        "public void ControlDesk.count(long,long)",
        "public void ControlDesk.time(long)");

    private static int wrong = 0;

    private static void due(String what, boolean holds) {
        if (!holds) {
            wrong++;
            System.out.println(what);
        }
    }

    private static Set<String> face() throws IllegalAccessException {
        Set<String> members = new TreeSet<>();
        for (Field field : ControlDesk.class.getDeclaredFields()) {
            if (!Modifier.isPrivate(field.getModifiers())) {
                members.add(Modifier.toString(field.getModifiers()) + " " + field.getType() + " " + field.getName() + " = " + field.get(null));
            }
        }
        for (Constructor<?> constructor : ControlDesk.class.getDeclaredConstructors()) {
            if (!Modifier.isPrivate(constructor.getModifiers())) {
                members.add(constructor.toString());
            }
        }
        for (Method method : ControlDesk.class.getDeclaredMethods()) {
            if (!Modifier.isPrivate(method.getModifiers())) {
                members.add(method.toString());
            }
        }
        return members;
    }

    private static void privateNames() {
        Set<String> open = new TreeSet<>();
        for (Method method : ControlDesk.class.getDeclaredMethods()) {
            if (Modifier.isPublic(method.getModifiers())) {
                open.add(method.getName());
            }
        }
        for (Method method : ControlDesk.class.getDeclaredMethods()) {
            boolean hidden = !Modifier.isPublic(method.getModifiers());
            due("a private method bears the name " + method.getName(), !hidden || !open.contains(method.getName()));
        }
    }

    private static void staticState() {
        for (Field field : ControlDesk.class.getDeclaredFields()) {
            int modifiers = field.getModifiers();
            due(field.getName() + " is static and not final", !Modifier.isStatic(modifiers) || Modifier.isFinal(modifiers));
        }
    }

    public static void main(String[] args) throws IllegalAccessException {
        Set<String> members = face();
        for (String member : DUE) {
            due("missing: " + member, members.contains(member));
        }
        for (String member : members) {
            due("not of the face: " + member, DUE.contains(member));
        }
        due("ControlDesk is public and final", ControlDesk.class.getModifiers() == (Modifier.PUBLIC | Modifier.FINAL));
        privateNames();
        staticState();
        System.out.println(wrong == 0 ? "the face is as due" : wrong + " things of the face are not as due");
        if (wrong != 0) {
            System.exit(1);
        }
    }
}
