import java.lang.reflect.Constructor;
import java.lang.reflect.Field;
import java.lang.reflect.Method;
import java.lang.reflect.Modifier;
import java.util.Random;
import java.util.Set;
import java.util.TreeSet;

/** The public face is the document's and no more, and no call throws, even after 512 calls. */
public final class FaceTest {
    private static final Due DUE = new Due();
    private static final Set<String> METHODS = Set.of(
        "int advance(int,int)", "int deliver(int)", "boolean alter(int,int)",
        "boolean spoil(int,int,int)", "int about(int,int)", "int known(int,int)",
        "int used(int,int,int)", "int sum(int,int)", "float place(int,int)",
        "float speed(int,int)", "int hits(int)", "double work(int)", "float advice(int)");

    public static void main(String[] args) {
        testMembers();
        testNestedClasses();
        testWildCallsNeverThrow();
        testManyCallsNeverThrow();
        DUE.end();
    }

    private static void testMembers() {
        Class<?> face = RollbackPair.class;
        DUE.same("public and final", face.getModifiers(), Modifier.PUBLIC | Modifier.FINAL);
        Set<String> found = new TreeSet<>();
        for (Method method : face.getDeclaredMethods()) {
            if (!Modifier.isPrivate(method.getModifiers())) {
                String whole = method.toString().replace("RollbackPair.", "");
                found.add(whole.replace("public ", ""));
            }
        }
        DUE.same("methods " + found, found.equals(METHODS), true);
        for (Field field : face.getDeclaredFields()) {
            boolean isConstant = field.toString().equals(
                "public static final int RollbackPair.NONE");
            boolean isPrivate = Modifier.isPrivate(field.getModifiers());
            DUE.same("field " + field, isConstant || isPrivate, true);
        }
        Constructor<?>[] constructors = face.getDeclaredConstructors();
        DUE.same("one constructor", constructors.length, 1);
        DUE.same("constructor " + constructors[0],
            constructors[0].toString().equals("public RollbackPair(int,int,int)"), true);
    }

    private static void testNestedClasses() {
        Set<String> names = new TreeSet<>();
        for (Method method : RollbackPair.class.getMethods()) {
            names.add(method.getName());
        }
        for (Class<?> nested : RollbackPair.class.getDeclaredClasses()) {
            int hidden = nested.getModifiers() & (Modifier.PUBLIC | Modifier.PROTECTED);
            DUE.same("private or package-visible " + nested, hidden, 0);
            DUE.same("static " + nested, Modifier.isStatic(nested.getModifiers()), true);
            for (Method method : nested.getDeclaredMethods()) {
                boolean isPrivate = Modifier.isPrivate(method.getModifiers());
                boolean isOfTheFace = names.contains(method.getName());
                DUE.same("a name of the face: " + method, isPrivate && isOfTheFace, false);
            }
            for (Field field : nested.getDeclaredFields()) {
                int modifiers = field.getModifiers();
                boolean isState = Modifier.isStatic(modifiers) && !Modifier.isFinal(modifiers);
                DUE.same("static state: " + field, isState, false);
            }
        }
    }

    private static int wild(Random random) {
        return random.nextInt(10) == 0 ? random.nextInt() : random.nextInt(10) - 1;
    }

    private static void testWildCallsNeverThrow() {
        for (int seed = 0; seed < 50; seed++) {
            Random random = new Random(seed);
            RollbackPair x = new RollbackPair(wild(random), wild(random), random.nextInt());
            for (int i = 0; i < 4000; i++) {
                int a = random.nextInt(20) == 0 ? wild(random) : random.nextInt(2);
                int b = wild(random);
                int c = random.nextInt();
                switch (random.nextInt(13)) {
                    case 0 -> x.deliver(a);
                    case 1 -> x.alter(a, b);
                    case 2 -> x.spoil(a, b, c);
                    case 3 -> x.about(a, b);
                    case 4 -> x.known(a, b);
                    case 5 -> x.used(a, b, c);
                    case 6 -> x.sum(a, c);
                    case 7 -> x.place(a, b);
                    case 8 -> x.speed(a, b);
                    case 9 -> x.hits(b);
                    case 10 -> x.work(b);
                    case 11 -> x.advice(b);
                    default -> x.advance(a, b);
                }
            }
        }
    }

    private static void testManyCallsNeverThrow() {
        RollbackPair x = new RollbackPair(4, 8, 0);
        for (int i = 0; i < 20000; i++) {
            x.advance(0, i & 7);
            x.advance(1, i * 3 & 7);
            x.deliver(i & 1);
            x.used(0, 1, i - 2);
            x.sum(1, i);
        }
    }
}
