import java.lang.reflect.Constructor;
import java.lang.reflect.Field;
import java.lang.reflect.Method;
import java.lang.reflect.Modifier;
import java.util.Arrays;
import java.util.Set;
import java.util.TreeSet;

/** The public face, and promise 1: a new object. */
public final class FaceTest {
    private static final Set<String> FACE = new TreeSet<>(Arrays.asList(
        "int feed(int, int, int, int, int) IndexOutOfBoundsException",
        "int end(int) IllegalArgumentException",
        "int code(long) IllegalArgumentException IndexOutOfBoundsException",
        "void balance(long, long, long) IllegalArgumentException IndexOutOfBoundsException",
        "void store(long, long, long, long) IllegalArgumentException IndexOutOfBoundsException",
        "void environment(int, long) IllegalArgumentException",
        "int run(long, long, long, int) IllegalArgumentException UnsupportedOperationException"
            + " IndexOutOfBoundsException",
        "int told(int) IllegalArgumentException",
        "long log(int, int) IllegalArgumentException NoSuchElementException",
        "long logWord(int, int) NoSuchElementException",
        "long word(int) NoSuchElementException",
        "long balanceOf(long, int) IllegalArgumentException",
        "long stored(long, long, long, long, long, int) IllegalArgumentException",
        "int codeSize(long) IllegalArgumentException",
        "long keccak(int) IllegalArgumentException"));

    private FaceTest() {
    }

    public static void main(String[] args) {
        Check check = new Check();
        members(check);
        classesInside(check);
        newObject(check);
        check.finish("FaceTest");
    }

    private static String told(Method m) {
        StringBuilder text = new StringBuilder(m.getReturnType() + " " + m.getName() + "(");
        for (int k = 0; k < m.getParameterCount(); k++) {
            text.append(k == 0 ? "" : ", ").append(m.getParameterTypes()[k]);
        }
        text.append(")");
        for (Class<?> thrown : m.getExceptionTypes()) {
            text.append(" ").append(thrown.getSimpleName());
        }
        return text.toString();
    }

    private static void members(Check check) {
        Class<?> c = ContractMachine.class;
        check.same("the class is public and final", c.getModifiers() & (Modifier.PUBLIC | Modifier.FINAL),
            Modifier.PUBLIC | Modifier.FINAL);
        Set<String> seen = new TreeSet<>();
        for (Method m : c.getDeclaredMethods()) {
            if (Modifier.isPublic(m.getModifiers())) {
                seen.add(told(m));
            } else {
                check.same(m.getName() + " is private", m.getModifiers() & Modifier.PRIVATE, Modifier.PRIVATE);
                check.same(m.getName() + " is no name of the face", faceHas(m.getName()) ? 1 : 0, 0);
            }
        }
        if (!seen.equals(FACE)) {
            check.complain("the face is " + seen + ", due is " + FACE);
        }
        Constructor<?>[] made = c.getDeclaredConstructors();
        check.same("constructors", made.length, 1);
        check.same("its parameters", made[0].getParameterCount(), 0);
        check.same("it is public", made[0].getModifiers(), Modifier.PUBLIC);
        for (Field f : c.getDeclaredFields()) {
            check.same(f.getName() + " is private", f.getModifiers() & Modifier.PRIVATE, Modifier.PRIVATE);
        }
    }

    private static boolean faceHas(String name) {
        for (String one : FACE) {
            if (one.contains(" " + name + "(")) {
                return true;
            }
        }
        return false;
    }

    private static void classesInside(Check check) {
        Class<?>[] inside = ContractMachine.class.getDeclaredClasses();
        check.same("at most twelve classes", inside.length + 1 <= 12 ? 0 : 1, 0);
        for (Class<?> c : inside) {
            check.same(c + " is private and static", c.getModifiers() & (Modifier.PRIVATE | Modifier.STATIC),
                Modifier.PRIVATE | Modifier.STATIC);
            int fields = 0;
            for (Field f : c.getDeclaredFields()) {
                fields += Modifier.isStatic(f.getModifiers()) ? 0 : 1;
            }
            check.same(c + " has some twenty fields at most", fields <= 20 ? 0 : fields, 0);
            for (Method m : c.getDeclaredMethods()) {
                check.same(c + " " + m.getName() + " is no name of the face", faceHas(m.getName()) ? 1 : 0, 0);
                check.same(m.getName() + " has at most seven parameters", m.getParameterCount() <= 7 ? 0 : 1, 0);
            }
        }
    }

    private static void newObject(Check check) {
        ContractMachine x = new ContractMachine();
        for (int k = 0; k <= 6; k++) {
            check.same("told(" + k + ") of a new object", x.told(k), 0);
        }
        for (long address : new long[] {0, 1, 2, 1000, Long.MAX_VALUE}) {
            for (int part = 0; part < 4; part++) {
                check.same("balanceOf", x.balanceOf(address, part), 0);
                check.same("stored", x.stored(address, 0, 0, 0, 0, part), 0);
                check.same("stored", x.stored(address, -1, -1, -1, -1, part), 0);
            }
            check.same("codeSize", x.codeSize(address), 0);
        }
        check.thrown("word(0)", java.util.NoSuchElementException.class, () -> x.word(0));
        check.thrown("log(0, 0)", java.util.NoSuchElementException.class, () -> x.log(0, 0));
        check.thrown("logWord(0, 0)", java.util.NoSuchElementException.class, () -> x.logWord(0, 0));
        check.same("the TAPE is empty", x.end(0), 0);
        check.thrown("end(1)", IllegalArgumentException.class, () -> x.end(1));
        Check.code(x, 2, "3A 41 42 43 44 45 46 17 17 17 17 17 17 600052 60206000F3");
        check.same("run", Check.run(x, 1, 2, 0, 1000), 1);
        check.same("the ENVIRONMENT is 0", x.word(24) | x.word(16) | x.word(8) | x.word(0), 0);
        ContractMachine other = new ContractMachine();
        check.same("objects share nothing", other.codeSize(2) + other.told(0), 0);
    }
}
