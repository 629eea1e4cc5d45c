import java.lang.reflect.Constructor;
import java.lang.reflect.Field;
import java.lang.reflect.Method;
import java.lang.reflect.Modifier;
import java.util.Set;
import java.util.TreeSet;

/** The public face of the document, and rule 1 of LANGUAGE.md. */
public final class FaceTest {
    private static final Set<String> FACE = Set.of(
        "boolean type(long,int)", "int compile()", "long length()", "int design(long,int)",
        "boolean start()", "boolean stop()",
        "double turn(double) throws IllegalStateException,IllegalArgumentException",
        "double back(double) throws IllegalStateException,IllegalArgumentException",
        "boolean weft(boolean)", "boolean findPick()", "boolean jump(long)", "boolean speed(float)",
        "boolean cut(boolean)", "boolean on()", "double angle()", "float left()",
        "double roll(double)", "int letOff(float)", "int state(int)", "long count(int)",
        "int cloth(int,int)");

    public static void main(String[] args) throws ReflectiveOperationException {
        Class<?> c = LoomDesk.class;
        Check.due("public", Modifier.isPublic(c.getModifiers()), true);
        Check.due("final", Modifier.isFinal(c.getModifiers()), true);
        methods(c);
        fields(c);
        constructors(c);
        for (Class<?> inside : c.getDeclaredClasses()) {
            int m = inside.getModifiers();
            Check.due(inside + " is private and static", Modifier.isPrivate(m) && Modifier.isStatic(m), true);
        }
        Check.due("at most twelve classes", c.getDeclaredClasses().length < 12, true);
        Check.end();
    }

    private static void methods(Class<?> c) {
        Set<String> seen = new TreeSet<>();
        Set<String> names = new TreeSet<>();
        for (Method m : c.getDeclaredMethods()) {
            if (Modifier.isPrivate(m.getModifiers())) {
                continue;
            }
            Check.due(m + " is public", Modifier.isPublic(m.getModifiers()), true);
            seen.add(told(m));
            names.add(m.getName());
        }
        Check.due("the methods", seen.toString(), new TreeSet<>(FACE).toString());
        for (Method m : c.getDeclaredMethods()) {
            boolean twice = Modifier.isPrivate(m.getModifiers()) && names.contains(m.getName());
            Check.due(m + " bears a public name", twice, false);
        }
    }

    private static String told(Method m) {
        StringBuilder text = new StringBuilder();
        text.append(m.getReturnType()).append(' ').append(m.getName()).append('(');
        for (int i = 0; i < m.getParameterCount(); i++) {
            text.append(i == 0 ? "" : ",").append(m.getParameterTypes()[i]);
        }
        text.append(')');
        for (int i = 0; i < m.getExceptionTypes().length; i++) {
            text.append(i == 0 ? " throws " : ",").append(m.getExceptionTypes()[i].getSimpleName());
        }
        return text.toString();
    }

    private static void fields(Class<?> c) throws ReflectiveOperationException {
        for (Field f : c.getDeclaredFields()) {
            boolean none = f.getName().equals("NONE");
            Check.due(f + " is private", Modifier.isPrivate(f.getModifiers()), !none);
            if (Modifier.isStatic(f.getModifiers())) {
                Check.due(f + " is final", Modifier.isFinal(f.getModifiers()), true);
            }
        }
        Field none = c.getField("NONE");
        Check.due("NONE", none.toString(), "public static final int LoomDesk.NONE");
        Check.due("NONE", none.getInt(null), -1);
    }

    private static void constructors(Class<?> c) {
        Constructor<?>[] all = c.getDeclaredConstructors();
        Check.due("constructors", all.length, 1);
        Check.due("the constructor", all[0].toString(), "public LoomDesk()");
    }
}
