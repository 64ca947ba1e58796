import java.lang.reflect.Constructor;
import java.lang.reflect.Field;
import java.lang.reflect.Method;
import java.lang.reflect.Modifier;
import java.util.TreeSet;

/** The public face of the class, and rule 1 of LANGUAGE.md. */
public final class FaceTest {
    private static final String[] FACE = {
        "public Quorumfund()",
        "public boolean prove(int) throws IndexOutOfBoundsException IllegalStateException",
        "public int addMilestone(int) throws IllegalArgumentException IllegalStateException",
        "public int current()",
        "public int fillPot(int) throws IllegalArgumentException IllegalStateException",
        "public int give(int int) throws IndexOutOfBoundsException IllegalArgumentException IllegalStateException",
        "public int in(int) throws IndexOutOfBoundsException",
        "public int inByBook(int) throws IndexOutOfBoundsException",
        "public int leave(int) throws IndexOutOfBoundsException",
        "public int match() throws NoSuchElementException",
        "public int matchByPairs() throws NoSuchElementException",
        "public int out()",
        "public int pot()",
        "public int release() throws IllegalStateException",
        "public int setPerson(int int) throws IndexOutOfBoundsException",
        "public int share(int) throws IndexOutOfBoundsException NoSuchElementException",
        "public int speaker(int) throws IndexOutOfBoundsException",
        "public int total()",
        "public int trust(int int) throws IndexOutOfBoundsException IllegalStateException",
        "public int vote(int int) throws IndexOutOfBoundsException IllegalArgumentException IllegalStateException",
        "public int weight(int) throws IllegalArgumentException",
        "public static final int NO",
        "public static final int NONE",
        "public static final int SILENT",
        "public static final int YES",
    };

    public static void main(String[] args) {
        Check.due("the face", new TreeSet<>(java.util.List.of(FACE)).toString(), found().toString());
        Check.due("the class", "public final", Modifier.toString(Quorumfund.class.getModifiers()));
        noPrivateMethodBearsAPublicName();
        constants();
        Check.end();
    }

    private static TreeSet<String> found() {
        TreeSet<String> found = new TreeSet<>();
        for (Constructor<?> c : Quorumfund.class.getDeclaredConstructors()) {
            if (!Modifier.isPrivate(c.getModifiers())) {
                found.add(Modifier.toString(c.getModifiers()) + " Quorumfund" + names(c.getParameterTypes(), "(", ")"));
            }
        }
        for (Method m : Quorumfund.class.getDeclaredMethods()) {
            if (!Modifier.isPrivate(m.getModifiers()) && !m.isSynthetic()) {
                String thrown = m.getExceptionTypes().length == 0 ? "" : names(m.getExceptionTypes(), " throws ", "");
                found.add(Modifier.toString(m.getModifiers()) + " " + m.getReturnType() + " " + m.getName()
                        + names(m.getParameterTypes(), "(", ")") + thrown);
            }
        }
        for (Field f : Quorumfund.class.getDeclaredFields()) {
            if (!Modifier.isPrivate(f.getModifiers()) && !f.isSynthetic()) {
                found.add(Modifier.toString(f.getModifiers()) + " " + f.getType() + " " + f.getName());
            }
        }
        return found;
    }

    private static String names(Class<?>[] types, String before, String after) {
        StringBuilder text = new StringBuilder(before);
        for (int i = 0; i < types.length; i++) {
            text.append(i == 0 ? "" : " ").append(types[i].getSimpleName());
        }
        return text.append(after).toString();
    }

    private static void noPrivateMethodBearsAPublicName() {
        TreeSet<String> names = new TreeSet<>();
        for (Method m : Quorumfund.class.getDeclaredMethods()) {
            Check.due("only one method " + m.getName(), true, names.add(m.getName()));
        }
    }

    private static void constants() {
        Check.says("NONE = -1: There is none. SILENT = 0, YES = 1, NO = 2: Votes.");
        Check.due("NONE", -1, Quorumfund.NONE);
        Check.due("SILENT", 0, Quorumfund.SILENT);
        Check.due("YES", 1, Quorumfund.YES);
        Check.due("NO", 2, Quorumfund.NO);
    }
}
