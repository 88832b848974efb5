import java.lang.reflect.Constructor;
import java.lang.reflect.Field;
import java.lang.reflect.Method;
import java.lang.reflect.Modifier;
import java.util.Set;
import java.util.TreeSet;

/** The class has the document's face, and nothing else that can be seen from outside. */
public final class FaceTest {
    private static final String[] FACE = {
        "public void PileLifts.piles(int,int) throws java.lang.IllegalArgumentException",
        "public int PileLifts.put(int,int,int) throws java.lang.IndexOutOfBoundsException,"
                + "java.lang.IllegalArgumentException,java.lang.UnsupportedOperationException",
        "public void PileLifts.want(int,int) throws java.lang.IndexOutOfBoundsException,"
                + "java.lang.IllegalStateException,java.lang.IllegalArgumentException",
        "public boolean PileLifts.may(int,int) throws java.lang.IndexOutOfBoundsException",
        "public int PileLifts.bound()",
        "public int PileLifts.run(int) throws java.lang.IllegalArgumentException",
        "public boolean PileLifts.proved() throws java.lang.IllegalStateException",
        "public int PileLifts.moves() throws java.lang.IllegalStateException",
        "public int PileLifts.move(int,int) throws java.lang.IndexOutOfBoundsException,"
                + "java.lang.IllegalStateException,java.lang.IllegalArgumentException",
        "public int PileLifts.replay(int) throws java.lang.IllegalStateException,"
                + "java.lang.IllegalArgumentException",
        "public int PileLifts.at(int,int) throws java.lang.IndexOutOfBoundsException",
        "public int PileLifts.tidy(int) throws java.lang.IllegalArgumentException",
        "public int PileLifts.wagon(int) throws java.lang.IllegalArgumentException,"
                + "java.lang.UnsupportedOperationException",
        "public int PileLifts.load(int) throws java.lang.IndexOutOfBoundsException,"
                + "java.lang.IllegalStateException,java.lang.UnsupportedOperationException",
    };

    private static final Due DUE = new Due();

    private static void visibleMembers() {
        Set<String> seen = new TreeSet<>();
        for (Method method : PileLifts.class.getDeclaredMethods()) {
            if (!Modifier.isPrivate(method.getModifiers())) {
                seen.add(method.toString());
            }
        }
        for (Field field : PileLifts.class.getDeclaredFields()) {
            if (!Modifier.isPrivate(field.getModifiers())) {
                seen.add(field.toString());
            }
        }
        DUE.is("the visible members", seen.toString(), new TreeSet<>(Set.of(FACE)).toString());
        Constructor<?>[] made = PileLifts.class.getDeclaredConstructors();
        DUE.is("constructors", 1, () -> made.length);
        DUE.is("the constructor", made[0].toString(), "public PileLifts()");
        DUE.is("the class", Modifier.toString(PileLifts.class.getModifiers()), "public final");
    }

    private static void insideClass(Class<?> inside, Set<String> faceNames) {
        int modifiers = inside.getModifiers();
        DUE.is(inside + " is static", 1, () -> Modifier.isStatic(modifiers) ? 1 : 0);
        DUE.is(inside + " is public or protected", 0,
                () -> Modifier.isPublic(modifiers) || Modifier.isProtected(modifiers) ? 1 : 0);
        hiddenNames(inside, faceNames);
    }

    private static void hiddenNames(Class<?> one, Set<String> faceNames) {
        for (Method method : one.getDeclaredMethods()) {
            if (!Modifier.isPublic(method.getModifiers())) {
                DUE.is(method + " bears a name of the face", 0,
                        () -> faceNames.contains(method.getName()) ? 1 : 0);
            }
        }
        for (Field field : one.getDeclaredFields()) {
            int modifiers = field.getModifiers();
            DUE.is(field + " is static and not final", 0,
                    () -> Modifier.isStatic(modifiers) && !Modifier.isFinal(modifiers) ? 1 : 0);
        }
    }

    public static void main(String[] args) {
        visibleMembers();
        Set<String> faceNames = new TreeSet<>();
        for (Method method : PileLifts.class.getMethods()) {
            if (method.getDeclaringClass() == PileLifts.class) {
                faceNames.add(method.getName());
            }
        }
        hiddenNames(PileLifts.class, faceNames);
        for (Class<?> inside : PileLifts.class.getDeclaredClasses()) {
            insideClass(inside, faceNames);
        }
        DUE.end();
    }
}
