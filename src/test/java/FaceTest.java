import java.lang.reflect.Constructor;
import java.lang.reflect.Field;
import java.lang.reflect.Method;
import java.lang.reflect.Modifier;
import java.util.TreeSet;

/** The public face: its members, and no other visible one but for classes inside (rule 1 of the language). */
public final class FaceTest {
    private static final String[] DUE = {
        "public static final int PieceBench.NONE",
        "public PieceBench()",
        "public int PieceBench.feed(long,int) throws IllegalArgumentException,IllegalStateException",
        "public int PieceBench.piece(int,int,int,int,int) throws IllegalArgumentException,IllegalStateException",
        "public int PieceBench.pass(int) throws IllegalArgumentException,IllegalStateException",
        "public int PieceBench.about(int) throws IllegalArgumentException,IllegalStateException",
        "public int PieceBench.byteAt(int) throws IllegalStateException,IndexOutOfBoundsException",
        "public int PieceBench.missing(int,int,int)",
        "public boolean PieceBench.has(int,int,int,int)",
        "public int PieceBench.waiting()",
    };

    public static void main(String[] args) {
        Check check = new Check();
        TreeSet<String> due = new TreeSet<>();
        for (String member : DUE) {
            due.add(member);
        }
        TreeSet<String> got = visibleMembers();
        for (String member : due) {
            check.same("the face has " + member, got.contains(member), true);
        }
        for (String member : got) {
            check.same("the document has " + member, due.contains(member), true);
        }
        int kind = PieceBench.class.getModifiers();
        check.same("the class is public and final", Modifier.isPublic(kind) && Modifier.isFinal(kind), true);
        check.same("the class has no package", PieceBench.class.getName(), "PieceBench");
        check.same("NONE", PieceBench.NONE, -1);
        looksAtTheClassesInside(check);
        check.end();
    }

    private static void looksAtTheClassesInside(Check check) {
        for (Class<?> inside : PieceBench.class.getDeclaredClasses()) {
            int kind = inside.getModifiers();
            check.same(inside + " is static", Modifier.isStatic(kind), true);
            check.same(inside + " is seen outside", Modifier.isPublic(kind) || Modifier.isProtected(kind), false);
        }
    }

    private static TreeSet<String> visibleMembers() {
        TreeSet<String> members = new TreeSet<>();
        for (Field field : PieceBench.class.getDeclaredFields()) {
            add(members, field.getModifiers(), field.toGenericString());
        }
        for (Constructor<?> constructor : PieceBench.class.getDeclaredConstructors()) {
            add(members, constructor.getModifiers(), constructor.toGenericString());
        }
        for (Method method : PieceBench.class.getDeclaredMethods()) {
            add(members, method.getModifiers(), method.toGenericString());
        }
        return members;
    }

    private static void add(TreeSet<String> members, int modifiers, String member) {
        if (!Modifier.isPrivate(modifiers)) {
            members.add(member.replace("java.lang.", ""));
        }
    }
}
