import java.lang.reflect.Constructor;
import java.lang.reflect.Field;
import java.lang.reflect.Method;
import java.lang.reflect.Modifier;
import java.util.TreeSet;

/** The face: the document's constants, constructor and methods, and nothing else that can be seen. */
public final class FaceTest {
    private static final String[] CALLS = {"int emitter(int,int,int,int)", "int takeAway(int)", "int tick(int)",
        "int bomb()", "int clearField()", "int set(int,int)", "int append(int)", "int clear()", "int fault(int)",
        "int hang()", "int play()", "int emitterOf(int,int)", "int bullet(int,int)", "int at(int,int)",
        "int count(int)", "int free(int)", "int lane(int,int)", "int ends(int,int)", "int way(int,int)",
        "int asides(int)", "int fair()", "int shuts(int)", "int ifStepped(int,int,int)", "double openness(int)",
        "int undo()", "int save()", "int restore()"};

    public static void main(String[] args) {
        Class<?> face = BulletLanes.class;
        Check.due("public and final", face.getModifiers(), Modifier.PUBLIC | Modifier.FINAL);
        methods(face);
        constants(face);
        Constructor<?>[] constructors = face.getDeclaredConstructors();
        Check.due("one constructor", constructors.length, 1);
        Check.due("it is public", constructors[0].getModifiers(), Modifier.PUBLIC);
        Check.due("of no parameters", constructors[0].getParameterCount(), 0);
        Check.end();
    }

    private static void methods(Class<?> face) {
        TreeSet<String> due = new TreeSet<>();
        TreeSet<String> names = new TreeSet<>();
        for (String call : CALLS) {
            due.add(call);
            names.add(call.substring(call.indexOf(' ') + 1, call.indexOf('(')));
        }
        TreeSet<String> found = new TreeSet<>();
        for (Method method : face.getDeclaredMethods()) {
            if (Modifier.isPrivate(method.getModifiers())) {
                Check.due("private " + method.getName(), names.contains(method.getName()) ? 1 : 0, 0);
                continue;
            }
            Check.due(method.getName() + " is public", method.getModifiers(), Modifier.PUBLIC);
            StringBuilder sign = new StringBuilder().append(method.getReturnType()).append(' ');
            sign.append(method.getName()).append('(');
            for (Class<?> type : method.getParameterTypes()) {
                sign.append(sign.charAt(sign.length() - 1) == '(' ? "" : ",").append(type);
            }
            found.add(sign.append(')').toString());
        }
        Check.due("the calls are the document's: " + found, found.equals(due) ? 1 : 0, 1);
    }

    private static void constants(Class<?> face) {
        int seen = 0;
        for (Field field : face.getDeclaredFields()) {
            if (!Modifier.isPrivate(field.getModifiers())) {
                seen++;
                int due = Modifier.PUBLIC | Modifier.STATIC | Modifier.FINAL;
                Check.due(field.getName(), field.getModifiers(), due);
            }
        }
        Check.due("constants", seen, 6);
        Check.due("INVALID_ARGUMENT", BulletLanes.INVALID_ARGUMENT, -1);
        Check.due("NOT_POSSIBLE", BulletLanes.NOT_POSSIBLE, -2);
        Check.due("LIMIT_REACHED", BulletLanes.LIMIT_REACHED, -3);
        Check.due("NOT_FOUND", BulletLanes.NOT_FOUND, -4);
        Check.due("TURN", BulletLanes.TURN, 0);
        Check.due("BLAST", BulletLanes.BLAST, 1);
    }
}
