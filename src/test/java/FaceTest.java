import java.lang.reflect.Constructor;
import java.lang.reflect.Field;
import java.lang.reflect.Method;
import java.lang.reflect.Modifier;
import java.util.Set;
import java.util.TreeSet;

/** The public face: exactly the document's constants, constructor and methods. */
public final class FaceTest {
    private static final String[] METHODS = {
        "int row(int,int,int)", "int set(int,int,long)", "int copy(int,int,int,int,int)", "long element(int,int)",
        "int show(int,int)", "int holds(int)", "int says(int,int)", "int thing(int,int,int,int)", "int man(int)",
        "int men(int,int,int)", "int want(int,int,int)", "int ask(int,int)", "int river(int,int)",
        "int thingOf(int,int)", "int manOf(int,int)", "int wantOf(int,int)", "int valley(int)", "int fault()",
        "int far(int,int)", "int wrong(int,int,int)", "int carry(int,int,int)", "int judge(int,int,int)",
        "int end(int,int)", "int does(int,int,int)", "int fewest(int,int)", "int order(int,int,int,int)",
        "int handovers(int,int)", "int shared()", "int given(int)", "int mill(int,int,int)", "int weakest(int,int)",
        "int helps(int,int,int,int)", "int caught(int,int,int)", "int mean(int,int,int)", "int cast(int,int)",
        "int toss(int,int,int)", "int part(int)", "int night()", "int seed(int)", "int act(int,int,int)",
        "int trace(int)", "int image()", "int restore()", "int status(int)"
    };

    public static void main(String[] args) {
        Class<?> face = NoFartherThanAThrow.class;
        Due.due("public and final", face.getModifiers(), Modifier.PUBLIC | Modifier.FINAL);
        Due.due("NONE", NoFartherThanAThrow.NONE, -1);
        Set<String> wanted = new TreeSet<>(Set.of(METHODS));
        Set<String> found = new TreeSet<>();
        Set<String> publicNames = new TreeSet<>();
        for (Method m : face.getDeclaredMethods()) {
            if (!Modifier.isPrivate(m.getModifiers())) {
                found.add(told(m));
                publicNames.add(m.getName());
                Due.due("public, not static: " + m, m.getModifiers(), Modifier.PUBLIC);
            }
        }
        Due.due("methods " + found + " for " + wanted, found.equals(wanted) ? 1 : 0, 1);
        for (Field f : face.getDeclaredFields()) {
            boolean isFace = f.getName().equals("NONE");
            Due.due("field " + f, Modifier.isPrivate(f.getModifiers()) ? 0 : 1, isFace ? 1 : 0);
        }
        for (Constructor<?> c : face.getDeclaredConstructors()) {
            Due.due("constructor " + c, c.getParameterCount() + c.getModifiers(), Modifier.PUBLIC);
        }
        privateNames(face, publicNames);
        for (Class<?> inside : face.getDeclaredClasses()) {
            privateNames(inside, publicNames);
            Due.due("static: " + inside, inside.getModifiers() & Modifier.STATIC, Modifier.STATIC);
            Due.due("not public: " + inside, inside.getModifiers() & (Modifier.PUBLIC | Modifier.PROTECTED), 0);
        }
        Due.finish();
    }

    private static void privateNames(Class<?> c, Set<String> publicNames) {
        for (Method m : c.getDeclaredMethods()) {
            boolean clash = !Modifier.isPublic(m.getModifiers()) && publicNames.contains(m.getName());
            Due.due("name of " + m, clash ? 1 : 0, 0);
        }
    }

    private static String told(Method m) {
        StringBuilder b = new StringBuilder(m.getReturnType().getName()).append(' ').append(m.getName()).append('(');
        Class<?>[] types = m.getParameterTypes();
        for (int i = 0; i < types.length; i++) {
            b.append(i == 0 ? "" : ",").append(types[i].getName());
        }
        return b.append(')').toString();
    }
}
