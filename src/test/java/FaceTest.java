import java.lang.reflect.Constructor;
import java.lang.reflect.Field;
import java.lang.reflect.Method;
import java.lang.reflect.Modifier;
import java.util.Arrays;
import java.util.TreeSet;

/** The public face: every constant, constructor and method of the document, and none beside. */
public final class FaceTest {
    private static final String[] METHODS = {
        "int key(long)", "int split(int,int)", "long bitsOf(int)", "long word(int,int,long)",
        "int drawer(int,int)", "int place(int,long)", "long told(int,int)", "boolean same(int,int)",
        "long bits(int,int)", "long below(int,long) throws ArithmeticException", "double real(int)",
        "float single(int)", "int coin(int,int,int)", "int misses(int,int,int,int)",
        "int hits(int,int,int,int)", "long mask(int,int,int,int)", "long normal(int)",
        "int permutation(int,int)", "int subset(int,int,int)",
        "int at(int) throws ArrayIndexOutOfBoundsException", "long weight(int,long)", "int choose(int)",
        "int secret(int,int,int,int)", "int back(int,int,int,int)", "int count(int)"};

    public static void main(String[] args) {
        Due due = new Due();
        Class<?> face = DrawStreams.class;
        due.isTrue("public final class", Modifier.isPublic(face.getModifiers()) && Modifier.isFinal(face.getModifiers()));
        due.isText("methods", publicMethods(face).toString(), new TreeSet<>(Arrays.asList(METHODS)).toString());
        due.isText("constants", visibleFields(face).toString(), "[BAD, FULL, NONE]");
        due.is("BAD", DrawStreams.BAD, -1);
        due.is("FULL", DrawStreams.FULL, -2);
        due.is("NONE", DrawStreams.NONE, -3);
        Constructor<?>[] makers = face.getDeclaredConstructors();
        due.is("constructors", makers.length, 1);
        due.isTrue("its constructor is public and takes nothing",
                Modifier.isPublic(makers[0].getModifiers()) && makers[0].getParameterCount() == 0);
        noNameTwice(due, face);
        due.end();
    }

    private static TreeSet<String> publicMethods(Class<?> face) {
        TreeSet<String> found = new TreeSet<>();
        for (Method m : face.getDeclaredMethods()) {
            if (Modifier.isPrivate(m.getModifiers())) {
                continue;
            }
            StringBuilder told = new StringBuilder(Modifier.isPublic(m.getModifiers()) ? "" : "not public: ");
            told.append(m.getReturnType()).append(' ').append(m.getName()).append('(');
            for (Class<?> type : m.getParameterTypes()) {
                told.append(told.charAt(told.length() - 1) == '(' ? "" : ",").append(type);
            }
            told.append(')');
            for (Class<?> type : m.getExceptionTypes()) {
                told.append(" throws ").append(type.getSimpleName());
            }
            found.add(told.toString());
        }
        return found;
    }

    private static TreeSet<String> visibleFields(Class<?> face) {
        TreeSet<String> found = new TreeSet<>();
        for (Field f : face.getDeclaredFields()) {
            if (!Modifier.isPrivate(f.getModifiers())) {
                found.add(f.getName());
            }
        }
        return found;
    }

    private static void noNameTwice(Due due, Class<?> face) {
        TreeSet<String> names = new TreeSet<>();
        for (String method : METHODS) {
            names.add(method.substring(method.indexOf(' ') + 1, method.indexOf('(')));
        }
        for (Method m : face.getDeclaredMethods()) {
            due.isTrue("no private method is named as a public one: " + m.getName(),
                    !Modifier.isPrivate(m.getModifiers()) || !names.contains(m.getName()));
        }
        for (Class<?> inside : face.getDeclaredClasses()) {
            due.isTrue("static class " + inside.getSimpleName(), Modifier.isStatic(inside.getModifiers()));
            for (Method m : inside.getDeclaredMethods()) {
                due.isTrue("no method inside is named as a public one: " + m.getName(), !names.contains(m.getName()));
            }
        }
    }
}
