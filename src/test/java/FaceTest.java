import java.lang.reflect.Constructor;
import java.lang.reflect.Field;
import java.lang.reflect.Method;
import java.lang.reflect.Modifier;
import java.util.Arrays;
import java.util.TreeSet;

/** Promise 1, the constants, and that the class has the document's face and no other. */
public final class FaceTest {
    private static final String[] METHODS = {
        "int person(int,int,int,int) IndexOutOfBounds IllegalArgument IllegalState",
        "int rite(int,int) IndexOutOfBounds IllegalArgument",
        "int home(int,int) IndexOutOfBounds IllegalArgument",
        "void order(int) IndexOutOfBounds IllegalState",
        "boolean ban(int) IndexOutOfBounds",
        "int die(int) IndexOutOfBounds IllegalState",
        "void dispense(int,int,int) IndexOutOfBounds IllegalArgument IllegalState",
        "void faculty(int,int,int) IllegalArgument",
        "boolean error(int) IllegalArgument",
        "int vow(int,int,int,int) IndexOutOfBounds IllegalArgument IllegalState",
        "void heal(int) IndexOutOfBounds IllegalState",
        "void grace(int) IndexOutOfBounds IllegalState",
        "int documents(int) IndexOutOfBounds IllegalState",
        "int cause(int,int,int,boolean) IndexOutOfBounds IllegalArgument IllegalState",
        "int doubt(int,int) IndexOutOfBounds IllegalArgument IllegalState",
        "int proof(int,int,int) IndexOutOfBounds IllegalArgument IllegalState",
        "int publish(int) IndexOutOfBounds IllegalState",
        "int vote(int,int,int) IndexOutOfBounds IllegalArgument IllegalState",
        "int sentence(int) IndexOutOfBounds IllegalState",
        "void appeal(int) IndexOutOfBounds IllegalState",
        "int pass(int) IllegalArgument",
        "int kin(int,int) IndexOutOfBounds",
        "int ancestor(int,int) IndexOutOfBounds",
        "int hindered(int) IndexOutOfBounds",
        "int vowOf(int,int) IndexOutOfBounds IllegalArgument",
        "int bound(int,int) IndexOutOfBounds IllegalArgument",
        "boolean hasCause(int,int) IndexOutOfBounds IllegalArgument",
        "int causeOf(int,int) IndexOutOfBounds IllegalArgument",
        "char state(int,int,int) IndexOutOfBounds IllegalArgument",
    };

    private static final String[] CONSTANTS = {
        "NONE=-1", "AGE=1", "KIN=2", "BOND=4", "ORDER=8",
        "STANDS=0", "NULL=1", "DISSOLVED=2", "ENDED=3",
        "OPEN=0", "PUBLISHED=1", "NULLIFIED=2", "REFUSED=3",
    };

    private static final Check CHECK = new Check("FaceTest");

    public static void main(String[] args) throws IllegalAccessException {
        promise01NewObject();
        methodsAreTheDocuments();
        privateMethodsHaveOtherNames();
        constantsAreTheDocuments();
        classAndConstructor();
        CHECK.finish();
    }

    private static void promise01NewObject() {
        VowCourt court = new VowCourt();
        CHECK.is("persons of a new court", Snapshot.persons(court), 0);
        CHECK.is("vows of a new court", Snapshot.vows(court), 0);
        CHECK.is("causes of a new court", Snapshot.causes(court), 0);
        CHECK.is("the day behind one day", court.pass(1), 1);
        VowCourt other = Courts.with(2);
        other.vow(0, 1, 0, 0);
        CHECK.is("the day of a vow in a new court", other.vowOf(0, 1), 0);
        CHECK.is("a court beside it", Snapshot.persons(court), 0);
    }

    private static void methodsAreTheDocuments() {
        TreeSet<String> got = new TreeSet<>();
        for (Method method : VowCourt.class.getDeclaredMethods()) {
            if (!Modifier.isPrivate(method.getModifiers())) {
                CHECK.is(method.getName() + " is public and nothing else", method.getModifiers(), Modifier.PUBLIC);
                got.add(signature(method));
            }
        }
        CHECK.is("the methods", got.toString(), new TreeSet<>(Arrays.asList(METHODS)).toString());
    }

    private static String signature(Method method) {
        StringBuilder text = new StringBuilder(method.getReturnType().getSimpleName());
        text.append(' ').append(method.getName()).append('(');
        String comma = "";
        for (Class<?> type : method.getParameterTypes()) {
            text.append(comma).append(type.getSimpleName());
            comma = ",";
        }
        text.append(')');
        for (Class<?> type : method.getExceptionTypes()) {
            text.append(' ').append(type.getSimpleName().replace("Exception", ""));
        }
        return text.toString();
    }

    private static void privateMethodsHaveOtherNames() {
        TreeSet<String> names = new TreeSet<>();
        for (String method : METHODS) {
            names.add(method.substring(method.indexOf(' ') + 1, method.indexOf('(')));
        }
        for (Method method : VowCourt.class.getDeclaredMethods()) {
            if (Modifier.isPrivate(method.getModifiers())) {
                CHECK.is("the name of the private " + method.getName(), names.contains(method.getName()), false);
            }
        }
    }

    private static void constantsAreTheDocuments() throws IllegalAccessException {
        TreeSet<String> got = new TreeSet<>();
        int constant = Modifier.PUBLIC | Modifier.STATIC | Modifier.FINAL;
        for (Field field : VowCourt.class.getDeclaredFields()) {
            if (!Modifier.isPrivate(field.getModifiers())) {
                CHECK.is(field.getName() + " is a constant", field.getModifiers(), constant);
                got.add(field.getName() + "=" + field.getInt(null));
            }
        }
        CHECK.is("the constants", got.toString(), new TreeSet<>(Arrays.asList(CONSTANTS)).toString());
    }

    private static void classAndConstructor() {
        CHECK.is("the class", VowCourt.class.getModifiers(), Modifier.PUBLIC | Modifier.FINAL);
        Constructor<?>[] all = VowCourt.class.getDeclaredConstructors();
        CHECK.is("constructors", all.length, 1);
        CHECK.is("the constructor's parameters", all[0].getParameterCount(), 0);
        CHECK.is("the constructor is public", Modifier.isPublic(all[0].getModifiers()), true);
        for (Class<?> inside : VowCourt.class.getDeclaredClasses()) {
            int modifiers = inside.getModifiers();
            boolean hidden = Modifier.isStatic(modifiers)
                    && !Modifier.isPublic(modifiers) && !Modifier.isProtected(modifiers);
            CHECK.is(inside.getSimpleName() + " is inside alone, and static", hidden, true);
        }
    }
}
