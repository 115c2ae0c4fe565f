import java.lang.reflect.InvocationTargetException;
import java.lang.reflect.Method;
import java.lang.reflect.Modifier;
import java.util.Arrays;
import java.util.TreeMap;
import java.util.TreeSet;

/**
 * Long runs of calls from a fixed row of numbers, 512 each, to the class and to the document read once more: each
 * answer and each exception is the same. Then that the runs came to all that is worth comparing.
 */
final class RunTests {
    private static final int RUNS = 600;
    private static final int RUNS_A_TEST = 50;
    private static final int[] ODD = {
        Integer.MIN_VALUE, -32769, -256, -2, -1, 0, 1, 2, 3, 5, 6, 7, 8, 11, 23, 24, 29, 30, 31, 32, 127, 128,
        5039, 5760, 10000, 10001, 36000, 36001, 1000000, 1000001, Integer.MAX_VALUE,
    };
    private static final TreeMap<String, Method> COURT = methodsOf(VowCourt.class);
    private static final TreeMap<String, Method> READING = methodsOf(Reading.class);
    private static final TreeSet<String> SEEN = new TreeSet<>();
    private static final String[] WORTH = {
        "NULLIFIED in 2", "NULLIFIED in 3", "REFUSED in 1", "REFUSED in 2", "REFUSED in 3", "OPEN in 3",
        "NULL", "DISSOLVED", "ENDED", "NULL behind its end", "24 persons", "30 vows",
        "heal", "documents", "grace", "appeal", "dispense 1", "dispense 2", "dispense 8", "bound to come",
        "hindered 1", "hindered 2", "hindered 4", "hindered 8",
    };

    private final VowCourt court = new VowCourt();
    private final Reading reading = new Reading();
    private final boolean odd;
    private long seed;
    private int called = 0;

    private RunTests(int run) {
        seed = 1_000_003L * run + 20261120;
        odd = run % 10 == 9;
    }

    static void tell(Suite suite) {
        for (int from = 0; from < RUNS; from += RUNS_A_TEST) {
            int first = from;
            suite.test("runs of 512 calls, answered as the document read once more: from " + from, () -> {
                for (int run = first; run < first + RUNS_A_TEST; run++) {
                    new RunTests(run).go(run);
                }
            });
        }
        for (String worth : WORTH) {
            suite.test("the runs came to: " + worth, () -> {
                if (!SEEN.contains(worth)) {
                    throw new AssertionError("they did not; they came to " + SEEN);
                }
            });
        }
        suite.test("the runs called each method with success, and with each exception that it names", () -> {
            for (Method method : COURT.values()) {
                isSeen(method.getName() + " answered");
                for (Class<?> exception : method.getExceptionTypes()) {
                    isSeen(method.getName() + " threw " + exception.getSimpleName());
                }
            }
        });
    }

    private static void isSeen(String what) {
        if (!SEEN.contains(what)) {
            throw new AssertionError("never: " + what);
        }
    }

    private static TreeMap<String, Method> methodsOf(Class<?> type) {
        TreeMap<String, Method> methods = new TreeMap<>();
        for (Method method : type.getDeclaredMethods()) {
            if (Modifier.isPublic(method.getModifiers())) {
                methods.put(method.getName(), method);
            }
        }
        return methods;
    }

    private void go(int run) {
        try {
            int persons = below(4) == 0 ? below(3) : 4 + below(run % 3 == 0 ? 20 : 6);
            for (int person = 0; person < persons; person++) {
                tellPerson();
            }
            while (called < Court.MOST_CALLS) {
                move();
            }
            look();
        } catch (AssertionError e) {
            throw new AssertionError("run " + run + ", call " + called + ": " + e.getMessage());
        }
    }

    /** Makes one call to both; behind the 512th one it does nothing. */
    private void call(String name, Object... arguments) {
        if (called == Court.MOST_CALLS) {
            return;
        }
        called++;
        for (int at = 0; at < arguments.length; at++) {
            if (arguments[at] instanceof Integer && below(odd ? 8 : 150) == 0) {
                arguments[at] = ODD[below(ODD.length)];
            }
        }
        String due = answer(READING.get(name), reading, arguments, false);
        String got = answer(COURT.get(name), court, arguments, true);
        if (!got.equals(due)) {
            throw new AssertionError(name + Arrays.toString(arguments) + " answered " + got + ", due is " + due);
        }
        boolean thrown = due.startsWith("threw");
        SEEN.add(name + (thrown ? " " + due : " answered"));
        if (!thrown) {
            note(name, arguments, due);
        }
    }

    private static String answer(Method method, Object target, Object[] arguments, boolean ofCourt) {
        try {
            Object answer = method.invoke(target, arguments);
            return answer instanceof Character ? "sign " + (int) (Character) answer : String.valueOf(answer);
        } catch (InvocationTargetException e) {
            Throwable thrown = e.getCause();
            if (ofCourt && !Court.isThrownByCourt(thrown)) {
                return "threw by the machine or the library " + thrown;
            }
            return "threw " + thrown.getClass().getSimpleName();
        } catch (IllegalAccessException e) {
            throw new AssertionError(e);
        }
    }

    private static void note(String name, Object[] arguments, String answer) {
        if (name.equals("heal") || name.equals("documents") || name.equals("grace") || name.equals("appeal")) {
            SEEN.add(name);
        } else if (name.equals("dispense")) {
            SEEN.add("dispense " + arguments[2]);
        } else if (name.equals("bound") && !answer.equals("-1") && (int) arguments[1] == 1000000) {
            SEEN.add("bound to come");
        } else if (name.equals("hindered")) {
            for (int kind = 1; kind <= 8; kind *= 2) {
                SEEN.add("hindered " + (Integer.parseInt(answer) & kind));
            }
        }
    }

    /** What the run came to at its end. */
    private void look() {
        String[] causes = {"OPEN", "PUBLISHED", "NULLIFIED", "REFUSED"};
        for (int number = 0; number < reading.causes.size(); number++) {
            SEEN.add(causes[reading.causeOf(number, 0)] + " in " + reading.causeOf(number, 1));
        }
        String[] vows = {"STANDS", "NULL", "DISSOLVED", "ENDED"};
        for (Reading.Vow vow : reading.vows) {
            SEEN.add(vows[Reading.statusOf(vow)]);
            if (vow.found >= 0 && vow.ended >= 0) {
                SEEN.add("NULL behind its end");
            }
        }
        SEEN.add(reading.persons.size() + " persons");
        SEEN.add(reading.vows.size() + " vows");
    }

    private void move() {
        int kind = below(100);
        if (kind < 30) {
            moveCause();
        } else if (kind < 62) {
            ask();
        } else if (kind < 80) {
            moveVow();
        } else {
            movePerson();
        }
    }

    private void tellPerson() {
        int[] ages = {9000, 9000, 9000, 36000, 5000 + below(800), 5035 + below(10), 5755 + below(10), below(40000)};
        call("person", ages[below(ages.length)], parent(), parent(), near(8));
    }

    private int parent() {
        int count = reading.persons.size();
        if (count == 0 || below(3) == 0) {
            return -1;
        }
        return below(2) == 0 ? below(count) : Math.max(-1, count - 1 - below(4));
    }

    private void movePerson() {
        switch (below(12)) {
            case 0: call("rite", person(), near(3)); break;
            case 1: case 2: call("home", person(), near(8)); break;
            case 3: call("order", below(3) == 0 ? person() : below(30)); break;
            case 4: banOrNot(); break;
            case 5: call("die", below(4) == 0 ? person() : below(100)); break;
            case 6: case 7: dispense(); break;
            case 8: tellPerson(); break;
            case 9: call("error", near(8)); break;
            case 10: call("faculty", near(6), near(8), below(4) == 0 ? near(10000) : below(40)); break;
            default: call("pass", below(3) == 0 ? near(3) : near(30)); break;
        }
    }

    private void banOrNot() {
        int who = person();
        call("ban", who);
        if (below(8) != 0) {
            call("ban", who);
        }
    }

    private void dispense() {
        int one = person();
        int other = person();
        int kin = one >= 0 && one < reading.persons.size() && other >= 0 && other < reading.persons.size()
                ? reading.kin(one, other) : -1;
        call("dispense", one, other, kin >= 200 && kin < 500 ? 2 : 1 << below(4));
        if (below(2) == 0) {
            call("vow", one, other, near(8), near(6));
        }
    }

    private void moveVow() {
        int vow = vow();
        switch (below(14)) {
            case 0: call("heal", vow); break;
            case 1: call("grace", below(3) == 0 ? vow : 60); break;
            case 2: call("documents", vow); break;
            case 3: case 4: case 5: case 6: openCause(vow); break;
            default:
                call("vow", person(), person(), near(8), near(6));
                if (below(2) == 0) {
                    call("hindered", Math.max(0, reading.vows.size() - 1));
                }
                break;
        }
    }

    private void openCause(int vow) {
        call("cause", vow, near(8), below(2) == 0 ? 127 : near(128), below(2) == 0);
    }

    private void moveCause() {
        int number = cause();
        if (number < 0 || number >= reading.causes.size()) {
            call(below(2) == 0 ? "publish" : "sentence", number);
            return;
        }
        switch (reading.causeOf(number, 0)) {
            case VowCourt.OPEN: moveOpen(number); break;
            case VowCourt.PUBLISHED: movePublished(number); break;
            default: moveOver(number); break;
        }
    }

    private void moveOpen(int number) {
        int ground = near(7);
        switch (below(8)) {
            case 0: call("doubt", number, near(128)); break;
            case 1: case 2: call("publish", number); break;
            case 3: call("vote", number, near(3), 0); break;
            default: call("proof", number, ground, below(3) == 0 ? below(21) - 10 : 3 + below(8)); break;
        }
    }

    private void movePublished(int number) {
        if (below(8) == 0) {
            moveNotNow(number);
            return;
        }
        Reading.Cause cause = reading.causes.get(number);
        if (cause.votes.size() == 3 && below(8) != 0) {
            call("sentence", number);
            return;
        }
        int judge = below(8) == 0 ? near(3) : cause.votes.size();
        int votable = Reading.sumOf(reading.votable(cause));
        int grounds = below(3) == 0 ? votable & below(128) : votable;
        call("vote", number, judge, below(20) == 0 ? near(128) : below(6) == 0 ? 0 : grounds);
    }

    private void moveNotNow(int number) {
        switch (below(4)) {
            case 0: call("doubt", number, near(128)); break;
            case 1: call("publish", number); break;
            case 2: call("appeal", number); break;
            default: call("proof", number, near(7), below(21) - 10); break;
        }
    }

    private void moveOver(int number) {
        if (below(3) == 0) {
            moveNotNow(number);
        } else {
            call("appeal", number);
        }
    }

    private void ask() {
        switch (below(10)) {
            case 0: call("kin", person(), person()); break;
            case 1: call("ancestor", person(), near(8)); break;
            case 2: call("hindered", vow()); break;
            case 3: call("vowOf", vow(), near(5)); break;
            case 4: call("bound", person(), day()); break;
            case 5: call("hasCause", vow(), near(8)); break;
            case 6: case 7: call("causeOf", cause(), near(7)); break;
            default: call("state", person(), day(), near(19)); break;
        }
    }

    private int day() {
        int[] days = {1000000, reading.today, Math.max(0, reading.today - 1), reading.today + 1,
            below(reading.today + 2), below(reading.today + 2)};
        return days[below(days.length)];
    }

    private int person() {
        return some(reading.persons.size());
    }

    private int vow() {
        return some(reading.vows.size());
    }

    /** Mostly one of the last ones, as earlier ones are mostly over. */
    private int cause() {
        int count = reading.causes.size();
        return below(4) == 0 ? some(count) : Math.max(0, count - 1 - below(3));
    }

    /** Of so many, and at times one beyond the last. */
    private int some(int count) {
        return below(40) == 0 ? count : below(Math.max(1, count));
    }

    /** Below a count, and at times a bit beyond its ends. */
    private int near(int count) {
        return below(60) == 0 ? below(count + 4) - 2 : below(count);
    }

    private int below(int bound) {
        seed = seed * 6364136223846793005L + 1442695040888963407L;
        return (int) ((seed >>> 33) % bound);
    }
}
