import java.lang.reflect.Constructor;
import java.lang.reflect.Field;
import java.lang.reflect.Method;
import java.lang.reflect.Modifier;
import java.util.TreeSet;

/** The public face: just what the document has, and nothing else that can be seen from outside. */
public final class FaceTest {
    private static final String[] FACE = {
        "public final class SortMerge",
        "public SortMerge()",
        "public static final int SortMerge.NONE",
        "public int SortMerge.area(int) throws java.lang.NegativeArraySizeException",
        "public int SortMerge.ways(int)",
        "public int SortMerge.key(int,int,int,boolean)",
        "public int SortMerge.record()",
        "public int SortMerge.octet(int,int,int)",
        "public int SortMerge.include(int,int,int)",
        "public int SortMerge.sum(int,int)",
        "public int SortMerge.exit(int,int,int)",
        "public int SortMerge.begin()",
        "public int SortMerge.release(int)",
        "public int SortMerge.sort(boolean) throws java.lang.IllegalStateException",
        "public int SortMerge.next()",
        "public int SortMerge.value(int)",
        "public int SortMerge.merge(int,int)",
        "public int SortMerge.mergeAll()",
        "public int SortMerge.compare(int,int) throws java.lang.IllegalArgumentException",
        "public int SortMerge.failed()",
        "public int SortMerge.count(int)"};

    public static void main(String[] args) {
        TreeSet<String> seen = new TreeSet<>();
        seen.add(SortMerge.class.toGenericString());
        for (Constructor<?> c : SortMerge.class.getDeclaredConstructors()) {
            add(seen, c.getModifiers(), c.toString());
        }
        for (Method m : SortMerge.class.getDeclaredMethods()) {
            add(seen, m.getModifiers(), m.toString());
        }
        for (Field f : SortMerge.class.getDeclaredFields()) {
            add(seen, f.getModifiers(), f.toString());
        }
        Check check = new Check();
        check.due("the face", seen.toString(), new TreeSet<>(java.util.List.of(FACE)).toString());
        for (Class<?> inside : SortMerge.class.getDeclaredClasses()) {
            int modifiers = inside.getModifiers();
            check.due(inside + " is static", Modifier.isStatic(modifiers) ? 1 : 0, 1);
            check.due(inside + " is public", Modifier.isPublic(modifiers) ? 1 : 0, 0);
        }
        check.end();
    }

    private static void add(TreeSet<String> seen, int modifiers, String member) {
        if (!Modifier.isPrivate(modifiers)) {
            seen.add(member);
        }
    }
}
