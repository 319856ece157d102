import java.lang.reflect.Constructor;
import java.lang.reflect.Member;
import java.lang.reflect.Method;
import java.lang.reflect.Modifier;
import java.util.Set;
import java.util.TreeSet;

/** The public face: the document's constructor and methods, and nothing else that is not private. */
public final class FaceTest {
    static final Set<String> FACE = Set.of(
        "int load(int,int,int) IllegalArgumentException", "void reset()", "void input(int,int) IllegalArgumentException",
        "int step()", "int run(int) IllegalArgumentException", "int register(int) IllegalArgumentException",
        "int memory(int)", "int poke(int,int)", "int dot(int,int) IndexOutOfBoundsException", "int lit(int,int,int,int)",
        "int state(int) IllegalArgumentException", "int sounds(int) IllegalArgumentException");

    public static void main(String[] args) {
        Class<?> board = InvaderBoard.class;
        Check.due("public", Modifier.isPublic(board.getModifiers()) ? 1 : 0, 1);
        Check.due("final", Modifier.isFinal(board.getModifiers()) ? 1 : 0, 1);
        Set<String> found = new TreeSet<>();
        for (Method m : board.getDeclaredMethods()) {
            if (isOfTheFace(m)) {
                Check.due("public " + m, Modifier.isPublic(m.getModifiers()) ? 1 : 0, 1);
                found.add(told(m));
            }
        }
        Check.due("methods of the face, found: " + found, found.equals(FACE) ? 1 : 0, 1);
        Constructor<?>[] constructors = board.getDeclaredConstructors();
        Check.due("constructors", constructors.length, 1);
        Check.due("public constructor", Modifier.isPublic(constructors[0].getModifiers()) ? 1 : 0, 1);
        Check.due("its parameters", constructors[0].getParameterCount(), 0);
        for (Member f : board.getDeclaredFields()) {
            Check.due("private " + f, Modifier.isPrivate(f.getModifiers()) ? 1 : 0, 1);
        }
        Check.finish();
    }

    /** Whether a caller can see it; the compiler may add methods of its own, which do not count. */
    static boolean isOfTheFace(Method m) {
        return !Modifier.isPrivate(m.getModifiers()) && !m.isSynthetic();
    }

    private static String told(Method m) {
        StringBuilder text = new StringBuilder(m.getReturnType() + " " + m.getName() + "(");
        String gap = "";
        for (Class<?> p : m.getParameterTypes()) {
            text.append(gap).append(p.getName());
            gap = ",";
        }
        text.append(")");
        for (Class<?> e : m.getExceptionTypes()) {
            text.append(" ").append(e.getSimpleName());
        }
        return text.toString();
    }
}
