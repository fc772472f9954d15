import java.lang.reflect.Constructor;
import java.lang.reflect.Field;
import java.lang.reflect.Method;
import java.lang.reflect.Modifier;
import java.util.ArrayList;
import java.util.List;
import java.util.TreeSet;

/** The public face of the document, and that there is nothing else to see. */
public final class FaceTest {
    private static final List<String> FACE = List.of(
            "public boolean FactorDesk.divides() throws java.lang.IllegalArgumentException",
            "public boolean FactorDesk.isIrreducible()",
            "public int FactorDesk.at(int) throws java.lang.IllegalArgumentException",
            "public int FactorDesk.clear()",
            "public int FactorDesk.common() throws java.lang.IllegalArgumentException",
            "public int FactorDesk.degree()",
            "public int FactorDesk.factor(int,int) throws java.util.NoSuchElementException",
            "public int FactorDesk.factors()",
            "public int FactorDesk.ofDegree(int) throws java.lang.IllegalArgumentException",
            "public int FactorDesk.put(int) throws java.lang.IllegalStateException",
            "public int FactorDesk.take() throws java.lang.IllegalArgumentException",
            "public int FactorDesk.times() throws java.lang.IllegalArgumentException,java.lang.IllegalStateException",
            "public long FactorDesk.content()",
            "public long FactorDesk.divisor(int) throws java.util.NoSuchElementException",
            "public long FactorDesk.part(int,int) throws java.util.NoSuchElementException",
            "public long FactorDesk.value(long,int) throws java.lang.IllegalArgumentException");

    public static void main(String[] args) {
        List<String> seen = new ArrayList<>();
        for (Method method : FactorDesk.class.getDeclaredMethods()) {
            if (!Modifier.isPrivate(method.getModifiers())) {
                seen.add(method.toString());
            }
        }
        Check.due("methods", new TreeSet<>(seen), FACE);
        Check.due("class", Modifier.toString(FactorDesk.class.getModifiers()), "public final");
        for (Constructor<?> made : FactorDesk.class.getDeclaredConstructors()) {
            Check.due("constructor", made.toString(), "public FactorDesk()");
        }
        fields(FactorDesk.class);
        for (Class<?> inside : FactorDesk.class.getDeclaredClasses()) {
            Check.due(inside + " is static", Modifier.isStatic(inside.getModifiers()), true);
            fields(inside);
        }
        Check.finish("FaceTest");
    }

    private static void fields(Class<?> owner) {
        Check.due("fields of " + owner, owner.getDeclaredFields().length <= 20, true);
        for (Field field : owner.getDeclaredFields()) {
            int marks = field.getModifiers();
            if (owner == FactorDesk.class) {
                Check.due(field + " is private", Modifier.isPrivate(marks), true);
            }
            if (Modifier.isStatic(marks)) {
                Check.due(field + " is final", Modifier.isFinal(marks), true);
            }
        }
    }
}
