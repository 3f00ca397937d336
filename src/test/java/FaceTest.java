import java.lang.reflect.Constructor;
import java.lang.reflect.Field;
import java.lang.reflect.Method;
import java.lang.reflect.Modifier;
import java.util.Set;
import java.util.TreeSet;

/** The class has the document's face and nothing beside it. */
public final class FaceTest {
    private static final String FACE = """
        void add(byte) UnsupportedOperationException
        int read()
        int sign(long,int) IllegalArgumentException,UnsupportedOperationException
        int code(int,byte) NoSuchElementException,UnsupportedOperationException
        int subroutine(int,byte) IndexOutOfBoundsException,UnsupportedOperationException
        void encode(int,int) IndexOutOfBoundsException,NoSuchElementException
        int encoded(int) IndexOutOfBoundsException
        int told(int,int) NoSuchElementException,IndexOutOfBoundsException
        int run(int) NoSuchElementException
        int piece(int,int) IndexOutOfBoundsException
        int width(int) NoSuchElementException
        int stack(int) ArrayIndexOutOfBoundsException
        int joined(int,int) NoSuchElementException,IndexOutOfBoundsException
        int cut(int) NoSuchElementException
        int seal()
        byte octet(int) ArrayIndexOutOfBoundsException
        int take()
        """;

    public static void main(String[] args) {
        Set<String> wanted = new TreeSet<>();
        for (String line : FACE.split("\n")) {
            wanted.add(line.strip());
        }
        Set<String> found = new TreeSet<>();
        Set<String> hidden = new TreeSet<>();
        Set<String> shown = new TreeSet<>();
        for (Method m : TypeOne.class.getDeclaredMethods()) {
            if (Modifier.isPrivate(m.getModifiers())) {
                hidden.add(m.getName());
            } else {
                shown.add(m.getName());
                found.add(told(m));
            }
        }
        System.out.println(found.equals(wanted) ? "the face is as due" : "face: " + found);
        Check.due("the face is the document's", found.equals(wanted) ? 1 : 0, 1);
        hidden.retainAll(shown);
        Check.due("private methods with a public one's name", hidden.size(), 0);
        for (Field f : TypeOne.class.getDeclaredFields()) {
            Check.due(f.getName() + " is private", Modifier.isPrivate(f.getModifiers()) ? 1 : 0, 1);
        }
        Constructor<?>[] all = TypeOne.class.getDeclaredConstructors();
        Check.due("constructors", all.length, 1);
        Check.due("its parameters", all[0].getParameterCount(), 0);
        Check.due("public final", TypeOne.class.getModifiers(), Modifier.PUBLIC | Modifier.FINAL);
        Check.end();
    }

    private static String told(Method m) {
        StringBuilder s = new StringBuilder();
        s.append(m.getReturnType().getSimpleName()).append(' ').append(m.getName()).append('(');
        s.append(names(m.getParameterTypes())).append(')');
        String thrown = names(m.getExceptionTypes());
        return thrown.isEmpty() ? s.toString() : s.append(' ').append(thrown).toString();
    }

    private static String names(Class<?>[] types) {
        StringBuilder s = new StringBuilder();
        for (Class<?> t : types) {
            s.append(s.length() == 0 ? "" : ",").append(t.getSimpleName());
        }
        return s.toString();
    }
}
