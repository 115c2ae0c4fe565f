import java.lang.reflect.Constructor;
import java.lang.reflect.Field;
import java.lang.reflect.Member;
import java.lang.reflect.Method;
import java.lang.reflect.Modifier;
import java.util.Arrays;
import java.util.TreeSet;

/** Promise 1, the constants, that the class has the document's face and no other, and its 512 calls. */
final class FaceTests {
    private static final String[] METHODS = {
        "int person(int,int,int,int) IndexOutOfBounds IllegalArgument IllegalState",
        "int rite(int,int) IndexOutOfBounds IllegalArgument",
        "int home(int,int) IndexOutOfBounds IllegalArgument",
        "void order(int) IndexOutOfBounds IllegalState",
        "boolean ban(int) IndexOutOfBounds",
        "int die(int) IndexOutOfBounds IllegalState",
        "void dispense(int,int,int) IndexOutOfBounds IllegalArgument IllegalState",
        "void faculty(int,int,int) IllegalArgument",
        "boolean error(int) IllegalArgument",
        "int vow(int,int,int,int) IndexOutOfBounds IllegalArgument IllegalState",
        "void heal(int) IndexOutOfBounds IllegalState",
        "void grace(int) IndexOutOfBounds IllegalState",
        "int documents(int) IndexOutOfBounds IllegalState",
        "int cause(int,int,int,boolean) IndexOutOfBounds IllegalArgument IllegalState",
        "int doubt(int,int) IndexOutOfBounds IllegalArgument IllegalState",
        "int proof(int,int,int) IndexOutOfBounds IllegalArgument IllegalState",
        "int publish(int) IndexOutOfBounds IllegalState",
        "int vote(int,int,int) IndexOutOfBounds IllegalArgument IllegalState",
        "int sentence(int) IndexOutOfBounds IllegalState",
        "void appeal(int) IndexOutOfBounds IllegalState",
        "int pass(int) IllegalArgument",
        "int kin(int,int) IndexOutOfBounds",
        "int ancestor(int,int) IndexOutOfBounds",
        "int hindered(int) IndexOutOfBounds",
        "int vowOf(int,int) IndexOutOfBounds IllegalArgument",
        "int bound(int,int) IndexOutOfBounds IllegalArgument",
        "boolean hasCause(int,int) IndexOutOfBounds IllegalArgument",
        "int causeOf(int,int) IndexOutOfBounds IllegalArgument",
        "char state(int,int,int) IndexOutOfBounds IllegalArgument",
    };

    private static final String[] CONSTANTS = {
        "NONE=-1", "AGE=1", "KIN=2", "BOND=4", "ORDER=8",
        "STANDS=0", "NULL=1", "DISSOLVED=2", "ENDED=3",
        "OPEN=0", "PUBLISHED=1", "NULLIFIED=2", "REFUSED=3",
    };

    private FaceTests() {
    }

    static void tell(Suite suite) {
        newObject(suite);
        calls(suite);
        for (String constant : CONSTANTS) {
            suite.test("face: the constant " + constant, () -> hasConstant(constant));
        }
        for (String method : METHODS) {
            suite.test("face: " + method, () -> hasMethod(method));
        }
        suite.test("face: no other constant or field is to be seen", FaceTests::hasNoOtherFields);
        suite.test("face: no other method is to be seen", FaceTests::hasNoOtherMethods);
        suite.test("face: the class is public and final", () ->
                isDue("modifiers", VowCourt.class.getModifiers(), Modifier.PUBLIC | Modifier.FINAL));
        suite.test("face: one constructor, public, without parameters", FaceTests::hasOneConstructor);
        suite.test("face: classes inside are static, and neither public nor protected", FaceTests::hidesClasses);
        suite.test("face: no private method bears the name of a public one", FaceTests::privateNamesDiffer);
    }

    private static void newObject(Suite suite) {
        suite.test("promise 1: the court opens on the day 0: the day behind one day is 1", () ->
                new Court().answers(1, c -> c.pass(1)));
        suite.test("promise 1: the court opens on the day 0: a vow then is of the day 0", () ->
                Court.vowed().answers(0, c -> c.vowOf(0, 1)));
        suite.test("promise 1: it opens without persons: there is no person 0", () ->
                new Court().outOfBounds(c -> c.kin(0, 0)));
        suite.test("promise 1: it opens without persons: the first one told is 0", () ->
                new Court().answers(0, c -> c.person(0, -1, -1, 0)));
        suite.test("promise 1: without persons there is no vow 0", () -> new Court().outOfBounds(c -> c.hindered(0)));
        suite.test("promise 1: without persons there is no cause 0", () ->
                new Court().outOfBounds(c -> c.causeOf(0, 0)));
        suite.test("promise 1: a new court knows of no common error", () -> {
            for (int at = 0; at < 8; at++) {
                int place = at;
                Court.of(2).does(c -> c.vow(0, 1, place, 0)).answers(1, c -> c.vowOf(0, 3));
            }
        });
        suite.test("promise 1: in a new court no witness has a faculty", () -> {
            for (int at = 0; at < 6; at++) {
                int witness = at;
                Court.of(2).does(c -> c.vow(0, 1, 0, witness)).answers(1, c -> c.vowOf(0, 3));
            }
        });
        suite.test("promise 1: two courts know nothing of each other", () -> {
            Court one = new Court();
            Court other = Court.vowed().does(c -> c.error(0)).does(c -> c.faculty(0, 0, 9)).does(c -> c.pass(3));
            one.outOfBounds(c -> c.kin(0, 0)).answers(1, c -> c.pass(1));
            other.answers(4, c -> c.pass(1));
            one.does(c -> c.person(9000, -1, -1, 0)).does(c -> c.person(9000, -1, -1, 0))
                    .does(c -> c.vow(0, 1, 0, 0)).answers(1, c -> c.vowOf(0, 3));
        });
    }

    private static void calls(Suite suite) {
        suite.test("an object is used for 512 calls: the last one answers as it must", () -> {
            Court court = new Court();
            for (int call = 1; call <= 512; call++) {
                court.answers(10000 * call, c -> c.pass(10000));
            }
        });
        suite.test("an object is used for 512 calls: refused ones among them change nothing", () -> {
            VowCourt court = new VowCourt();
            for (int call = 1; call <= 511; call++) {
                Court.refusalOf(court, c -> c.person(-1, -1, -1, 0));
            }
            isDue("the first person", court.person(0, -1, -1, 0), 0);
        });
        suite.test("an object is used for 512 calls: all of them on vows and proofs", () -> {
            Court court = Court.inCause(1);
            for (int call = 0; call < 500; call++) {
                int weight = call % 2 == 0 ? 10 : -10;
                court.answers(10 + Math.max(0, weight), c -> c.proof(0, 0, weight));
            }
        });
    }

    private static void hasConstant(String constant) {
        String name = constant.substring(0, constant.indexOf('='));
        for (Field field : VowCourt.class.getDeclaredFields()) {
            if (field.getName().equals(name)) {
                isDue("modifiers", field.getModifiers(), Modifier.PUBLIC | Modifier.STATIC | Modifier.FINAL);
                isDue("its type is int", field.getType() == int.class ? 1 : 0, 1);
                isDue("its value", valueOf(field), Integer.parseInt(constant.substring(name.length() + 1)));
                return;
            }
        }
        throw new AssertionError("there is none");
    }

    private static int valueOf(Field field) {
        try {
            return field.getInt(null);
        } catch (IllegalAccessException e) {
            throw new AssertionError(e);
        }
    }

    private static void hasMethod(String due) {
        for (Method method : VowCourt.class.getDeclaredMethods()) {
            if (signatureOf(method).equals(due)) {
                isDue("modifiers", method.getModifiers(), Modifier.PUBLIC);
                return;
            }
        }
        throw new AssertionError("there is none");
    }

    private static String signatureOf(Method method) {
        StringBuilder text = new StringBuilder(method.getReturnType().getSimpleName());
        text.append(' ').append(method.getName()).append('(');
        String comma = "";
        for (Class<?> type : method.getParameterTypes()) {
            text.append(comma).append(type.getSimpleName());
            comma = ",";
        }
        text.append(')');
        for (Class<?> type : method.getExceptionTypes()) {
            text.append(' ').append(type.getSimpleName().replace("Exception", ""));
        }
        return text.toString();
    }

    private static boolean isSeen(Member member) {
        return !Modifier.isPrivate(member.getModifiers()) && !member.isSynthetic();
    }

    private static void hasNoOtherFields() {
        for (Field field : VowCourt.class.getDeclaredFields()) {
            boolean listed = false;
            for (String constant : CONSTANTS) {
                listed |= constant.startsWith(field.getName() + "=");
            }
            isDue(field.getName() + " is seen", isSeen(field) ? 1 : 0, listed ? 1 : 0);
        }
    }

    private static void hasNoOtherMethods() {
        for (Method method : VowCourt.class.getDeclaredMethods()) {
            boolean listed = Arrays.asList(METHODS).contains(signatureOf(method));
            isDue(method.getName() + " is seen", isSeen(method) ? 1 : 0, listed ? 1 : 0);
        }
    }

    private static void hasOneConstructor() {
        Constructor<?>[] all = VowCourt.class.getDeclaredConstructors();
        isDue("constructors", all.length, 1);
        isDue("its parameters", all[0].getParameterCount(), 0);
        isDue("its modifiers", all[0].getModifiers(), Modifier.PUBLIC);
    }

    private static void hidesClasses() {
        for (Class<?> inside : VowCourt.class.getDeclaredClasses()) {
            int modifiers = inside.getModifiers();
            boolean hidden = !Modifier.isPublic(modifiers) && !Modifier.isProtected(modifiers);
            isDue(inside.getName() + " is hidden", hidden ? 1 : 0, 1);
            isDue(inside.getName() + " is static", Modifier.isStatic(modifiers) ? 1 : 0, 1);
        }
    }

    private static void privateNamesDiffer() {
        TreeSet<String> names = new TreeSet<>();
        for (String method : METHODS) {
            names.add(method.substring(method.indexOf(' ') + 1, method.indexOf('(')));
        }
        for (Method method : VowCourt.class.getDeclaredMethods()) {
            boolean hidden = Modifier.isPrivate(method.getModifiers());
            isDue("a private " + method.getName(), hidden && names.contains(method.getName()) ? 1 : 0, 0);
        }
    }

    private static void isDue(String what, int got, int due) {
        if (got != due) {
            throw new AssertionError(what + ": " + got + ", due is " + due);
        }
    }
}
