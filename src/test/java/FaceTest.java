import java.lang.reflect.Constructor;
import java.lang.reflect.Executable;
import java.lang.reflect.Field;
import java.lang.reflect.Method;
import java.lang.reflect.Modifier;
import java.util.Set;
import java.util.TreeSet;

/** The face of the class is the document's, and nothing else of it can be seen from outside. */
public final class FaceTest {
    private static final String[] METHODS = {
        "int type(int,int)", "int wipe(int)", "int undo(int)", "int fault(int)", "int swell(int,int)",
        "int roll(int)", "int begins(int,int)", "int lee(int,int)", "int set(int,int)", "int high(int)",
        "int does(int)", "int leans(int)", "int crest(int,int)", "int seventh(int)", "int lull(int,int,int)",
        "int step(int)", "int fall(int)", "int climb(int)", "int bangs(int)", "long safe(int,int)",
        "int best(int,int)", "int call(int,int)", "int down(int,int,int)", "int saves()", "int ladder(int,int)",
        "int seen(int,int)", "int forget()", "int read(int)", "int learn(int,int)", "int night(int,int)",
        "int sheet(int,int,int)", "int lose(int)", "int put(int,int,int,int)", "int get(int,int,int)",
        "int copy(int,int,int,int,int)", "int write(int,int)", "int count(int)", "long digest()"};

    private FaceTest() {
    }

    public static void main(String[] args) {
        Class<?> face = RopeLadder.class;
        isSo("public final", Modifier.isPublic(face.getModifiers()) && Modifier.isFinal(face.getModifiers()));
        isSo("no superclass", face.getSuperclass() == Object.class && face.getInterfaces().length == 0);
        Due.due("NONE", RopeLadder.NONE, -1);
        Due.due("BAD", RopeLadder.BAD, -2);
        Due.due("NOT", RopeLadder.NOT, -3);
        Due.due("FULL", RopeLadder.FULL, -4);
        constructors(face);
        methods(face);
        fields(face);
        classesInside(face);
        Due.end("FaceTest");
    }

    private static void isSo(String what, boolean so) {
        Due.due(what, so ? 1 : 0, 1);
    }

    private static void constructors(Class<?> face) {
        Constructor<?>[] all = face.getDeclaredConstructors();
        Due.due("constructors", all.length, 1);
        isSo("the constructor", Modifier.isPublic(all[0].getModifiers()) && all[0].getParameterCount() == 0);
    }

    private static void methods(Class<?> face) {
        Set<String> due = new TreeSet<>(Set.of(METHODS));
        Set<String> names = publicNames(face);
        for (Method method : face.getDeclaredMethods()) {
            if (Modifier.isPrivate(method.getModifiers())) {
                isSo("a name of its own: " + method, !names.contains(method.getName()));
            } else {
                isSo(signature(method), Modifier.isPublic(method.getModifiers()) && due.remove(signature(method)));
                isSo(signature(method) + ", of an object", !Modifier.isStatic(method.getModifiers()));
            }
        }
        Due.due("methods that are not there " + due, due.size(), 0);
    }

    private static String signature(Method method) {
        StringBuilder told = new StringBuilder(method.getReturnType() + " " + method.getName() + "(");
        for (Class<?> type : method.getParameterTypes()) {
            told.append(told.charAt(told.length() - 1) == '(' ? "" : ",").append(type);
        }
        return told.append(")").toString();
    }

    private static void fields(Class<?> face) {
        Set<String> constants = Set.of("NONE", "BAD", "NOT", "FULL");
        for (Field field : face.getDeclaredFields()) {
            int kind = field.getModifiers();
            boolean told = constants.contains(field.getName());
            isSo("field " + field.getName(), told ? Modifier.isPublic(kind) : Modifier.isPrivate(kind));
            isSo("static " + field.getName(), !Modifier.isStatic(kind) || Modifier.isFinal(kind));
        }
    }

    private static Set<String> publicNames(Class<?> face) {
        Set<String> names = new TreeSet<>();
        for (Method method : face.getMethods()) {
            names.add(method.getName());
        }
        return names;
    }

    private static void classesInside(Class<?> face) {
        Set<String> names = publicNames(face);
        Due.due("at most twelve classes", Math.max(12, 1 + face.getDeclaredClasses().length), 12);
        state(face);
        for (Class<?> inside : face.getDeclaredClasses()) {
            int kind = inside.getModifiers();
            isSo("static " + inside, Modifier.isStatic(kind) && !Modifier.isPublic(kind) && !Modifier.isProtected(kind));
            state(inside);
            for (Executable method : inside.getDeclaredMethods()) {
                isSo("a name of its own: " + method, !names.contains(method.getName()));
            }
        }
    }

    /** Rules 5 and 11: what is static is a constant or a row of them; of the rest there are some twenty at most. */
    private static void state(Class<?> part) {
        Set<Class<?>> constants = Set.of(int.class, long.class, boolean.class, char.class, String.class,
            int[].class, long[].class, char[].class, byte[].class);
        int fields = 0;
        for (Field field : part.getDeclaredFields()) {
            int kind = field.getModifiers();
            if (Modifier.isStatic(kind)) {
                isSo("a constant: " + field, Modifier.isFinal(kind) && constants.contains(field.getType()));
            } else {
                fields++;
            }
        }
        Due.due("at most twenty fields in " + part, Math.max(20, fields), 20);
    }
}
