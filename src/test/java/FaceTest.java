import java.lang.reflect.Constructor;
import java.lang.reflect.Field;
import java.lang.reflect.Method;
import java.lang.reflect.Modifier;
import java.util.Arrays;
import java.util.Set;
import java.util.TreeSet;

/** The class has the document's face and no member more that others could see. */
public final class FaceTest {
    private static final Set<String> METHODS = new TreeSet<>(Arrays.asList(
            "int load(int,int,int,int,int,int) throws java.lang.IndexOutOfBoundsException",
            "int word(int) throws java.lang.IndexOutOfBoundsException",
            "boolean poke(int,int) throws java.lang.IndexOutOfBoundsException",
            "int register(int) throws java.lang.IndexOutOfBoundsException",
            "void put(int,int) throws java.lang.IndexOutOfBoundsException",
            "int flags()", "void flag(int)",
            "int run(int) throws java.lang.IllegalArgumentException",
            "int steps()",
            "int output(int) throws java.lang.IndexOutOfBoundsException",
            "int outputs()", "void clear()"));

    public static void main(String[] args) {
        Check check = new Check();
        check.sentence("The public face", "public static final int NONE = -1;");
        check.same("NONE", WordGuest.NONE, -1);
        check.sentence("The public face", "public final class WordGuest");
        check.same("class is public and final",
                Modifier.isPublic(WordGuest.class.getModifiers()) && Modifier.isFinal(WordGuest.class.getModifiers()), true);
        Set<String> seen = new TreeSet<>();
        Set<String> hidden = new TreeSet<>();
        for (Method m : WordGuest.class.getDeclaredMethods()) {
            if (Modifier.isPrivate(m.getModifiers())) {
                hidden.add(m.getName());
            } else {
                seen.add(described(m));
            }
        }
        check.same("methods " + seen, seen.equals(METHODS), true);
        for (String described : METHODS) {
            String name = described.substring(described.indexOf(' ') + 1, described.indexOf('('));
            check.same("a private method is called " + name, hidden.contains(name), false);
        }
        for (Field f : WordGuest.class.getDeclaredFields()) {
            if (!f.isSynthetic()) {
                check.same("field " + f.getName() + " is private",
                        Modifier.isPrivate(f.getModifiers()), !f.getName().equals("NONE"));
            }
        }
        Constructor<?>[] made = WordGuest.class.getDeclaredConstructors();
        check.same("constructors", made.length, 1);
        check.same("constructor is public", Modifier.isPublic(made[0].getModifiers()), true);
        check.same("constructor's parameters", made[0].getParameterCount(), 0);
        check.end();
    }

    private static String described(Method m) {
        StringBuilder text = new StringBuilder();
        text.append(m.getReturnType().getName()).append(' ').append(m.getName()).append('(');
        for (Class<?> p : m.getParameterTypes()) {
            text.append(text.charAt(text.length() - 1) == '(' ? "" : ",").append(p.getName());
        }
        text.append(')');
        for (Class<?> e : m.getExceptionTypes()) {
            text.append(" throws ").append(e.getName());
        }
        return text.toString();
    }
}
