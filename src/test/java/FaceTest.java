import java.lang.reflect.Constructor;
import java.lang.reflect.Field;
import java.lang.reflect.Method;
import java.lang.reflect.Modifier;
import java.util.Set;
import java.util.TreeSet;

/** The public face of the document, and nothing beside it that isn't private. */
public final class FaceTest {
    private static final Set<String> FACE = Set.of(
            "int DONE", "int REFUSED", "int FULL", "int SHAPE", "int STATE", "long NONE",
            "MatrixModule()",
            "int source(int,int,int,int)", "int operation(int,int,int,int)",
            "int reshape(int,int,int,int)", "int part(int,int,int,int,int)",
            "int mark(int,boolean)", "int set(int,int,int,int)", "int simplify()", "int work()",
            "long cell(int,int,int)", "int standIn(int)", "int value(int,int)", "int count(int)");

    public static void main(String[] args) {
        Check check = new Check("FaceTest");
        Set<String> found = new TreeSet<>();
        for (Field f : MatrixModule.class.getDeclaredFields()) {
            if (!Modifier.isPrivate(f.getModifiers())) {
                int constant = Modifier.PUBLIC | Modifier.STATIC | Modifier.FINAL;
                check.due(f + " is a public constant", f.getModifiers(), constant);
                found.add(f.getType() + " " + f.getName());
            }
        }
        for (Constructor<?> c : MatrixModule.class.getDeclaredConstructors()) {
            check.due(c + " is public", c.getModifiers(), Modifier.PUBLIC);
            found.add("MatrixModule(" + types(c.getParameterTypes()) + ")");
        }
        Set<String> publicNames = new TreeSet<>();
        for (Method m : MatrixModule.class.getDeclaredMethods()) {
            if (!Modifier.isPrivate(m.getModifiers())) {
                check.due(m + " is public", m.getModifiers(), Modifier.PUBLIC);
                found.add(m.getReturnType() + " " + m.getName() + "(" + types(m.getParameterTypes()) + ")");
                publicNames.add(m.getName());
            }
        }
        for (Method m : MatrixModule.class.getDeclaredMethods()) {
            boolean clashes = Modifier.isPrivate(m.getModifiers()) && publicNames.contains(m.getName());
            check.due(m + " has a public one's name", clashes ? 1 : 0, 0);
        }
        for (String member : FACE) {
            check.due("has " + member, found.contains(member) ? 1 : 0, 1);
        }
        for (String member : found) {
            check.due("may have " + member, FACE.contains(member) ? 1 : 0, 1);
        }
        check.due("final", Modifier.isFinal(MatrixModule.class.getModifiers()) ? 1 : 0, 1);
        check.due("DONE", MatrixModule.DONE, 0);
        check.due("REFUSED", MatrixModule.REFUSED, -1);
        check.due("FULL", MatrixModule.FULL, -2);
        check.due("SHAPE", MatrixModule.SHAPE, -3);
        check.due("STATE", MatrixModule.STATE, -4);
        check.due("NONE", MatrixModule.NONE, -1000000000000L);
        check.end();
    }

    private static String types(Class<?>[] types) {
        StringBuilder text = new StringBuilder();
        for (Class<?> type : types) {
            text.append(text.length() == 0 ? "" : ",").append(type);
        }
        return text.toString();
    }
}
