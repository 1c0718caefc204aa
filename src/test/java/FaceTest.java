import java.lang.reflect.Constructor;
import java.lang.reflect.Field;
import java.lang.reflect.Member;
import java.lang.reflect.Method;
import java.lang.reflect.Modifier;
import java.util.Set;
import java.util.TreeSet;

/** The class has the members of the document's public face, with what they say they throw, and shows no other. */
public final class FaceTest extends Checks {
    private static final String[] FACE = {
        "public static final int NONE",
        "public LoanTerms()",
        "public int unit(int) throws IllegalStateException, IllegalArgumentException",
        "public int read() throws IllegalStateException",
        "public int terms(int) throws IndexOutOfBoundsException",
        "public int written(int, int) throws IndexOutOfBoundsException",
        "public int input(int, int, int) throws IndexOutOfBoundsException, IllegalStateException, IllegalArgumentException",
        "public void fails(int, int, int) throws IndexOutOfBoundsException, IllegalArgumentException",
        "public int loan(int, int, int, int) throws IndexOutOfBoundsException, IllegalStateException, IllegalArgumentException",
        "public boolean shield(int, boolean) throws IndexOutOfBoundsException",
        "public int ask(int, int) throws IndexOutOfBoundsException, IllegalArgumentException",
        "public int open(int, int, int) throws IndexOutOfBoundsException, IllegalArgumentException",
        "public int told(int, int, int) throws IndexOutOfBoundsException",
        "public int extend(int, int, int) throws IndexOutOfBoundsException, IllegalArgumentException",
        "public int request(int, int, int) throws IndexOutOfBoundsException, IllegalStateException, IllegalArgumentException",
        "public int clash(int, int) throws IndexOutOfBoundsException",
        "public int days(int) throws IndexOutOfBoundsException",
        "public int fee(int) throws IndexOutOfBoundsException",
        "public int letter(int, int) throws IndexOutOfBoundsException",
        "public int count(int) throws IndexOutOfBoundsException",
    };

    public static void main(String[] args) {
        due("the class", Modifier.toString(LoanTerms.class.getModifiers()), "public final");
        due("what it extends", LoanTerms.class.getSuperclass().getSimpleName(), "Object");
        due("what it implements", LoanTerms.class.getInterfaces().length, 0);
        due("its face", String.join("\n", shown()), String.join("\n", new TreeSet<>(Set.of(FACE))));
        due("NONE", LoanTerms.NONE, -1);
        for (Class<?> inside : LoanTerms.class.getDeclaredClasses()) insideIsHidden(inside);
        noHiddenMethodHasAPublicName();
        endWithCount();
    }

    private static Set<String> shown() {
        Set<String> lines = new TreeSet<>();
        for (Field f : LoanTerms.class.getDeclaredFields()) {
            if (isShown(f)) lines.add(line(f.toGenericString().replace("LoanTerms.", "")));
        }
        for (Constructor<?> c : LoanTerms.class.getDeclaredConstructors()) {
            if (isShown(c)) lines.add(line(c.toGenericString()));
        }
        for (Method m : LoanTerms.class.getDeclaredMethods()) {
            if (isShown(m)) lines.add(line(m.toGenericString().replace("LoanTerms.", "")));
        }
        return lines;
    }

    private static boolean isShown(Member member) {
        return !member.isSynthetic() && !Modifier.isPrivate(member.getModifiers());
    }

    private static String line(String member) {
        return member.replace("java.lang.", "").replace(",", ", ");
    }

    private static void insideIsHidden(Class<?> inside) {
        int modifiers = inside.getModifiers();
        due(inside + " is static", truth(Modifier.isStatic(modifiers)), 1);
        due(inside + " is hidden", truth(!Modifier.isPublic(modifiers) && !Modifier.isProtected(modifiers)), 1);
    }

    private static void noHiddenMethodHasAPublicName() {
        Set<String> names = new TreeSet<>();
        for (Method m : LoanTerms.class.getDeclaredMethods()) if (isShown(m)) names.add(m.getName());
        for (Method m : LoanTerms.class.getDeclaredMethods()) {
            if (!isShown(m)) due("a hidden method " + m.getName(), truth(names.contains(m.getName())), 0);
        }
    }
}
