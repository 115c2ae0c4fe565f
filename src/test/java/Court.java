import java.util.ArrayList;
import java.util.function.Consumer;
import java.util.function.Predicate;
import java.util.function.ToLongFunction;

/**
 * A VowCourt to be tested, with all calls that were made on it, so that the same can be made again on others.
 * It is called 512 times at most, as the document frees the answers behind that.
 */
final class Court {
    static final int MOST_CALLS = 512;
    /** An age of 25 years, at which nobody is too young. */
    static final int GROWN = 9000;

    private final ArrayList<Consumer<VowCourt>> steps = new ArrayList<>();
    private final VowCourt court = new VowCourt();
    private int called = 0;

    /** Persons who are grown, not kin, of the rite 0; each at home at the place of the own number, up to 7. */
    static Court of(int persons) {
        Court court = new Court();
        for (int number = 0; number < persons; number++) {
            int home = Math.min(number, 7);
            court.does(c -> c.person(GROWN, -1, -1, home));
        }
        return court;
    }

    /** Persons of these ages who are not kin. */
    static Court aged(int... ages) {
        Court court = new Court();
        for (int age : ages) {
            court.does(c -> c.person(age, -1, -1, 0));
        }
        return court;
    }

    /** Grown persons by rows of a father and a mother, with -1 for none. */
    static Court family(int... parents) {
        Court court = new Court();
        for (int at = 0; at + 1 < parents.length; at += 2) {
            int father = parents[at];
            int mother = parents[at + 1];
            court.does(c -> c.person(GROWN, father, mother, 0));
        }
        return court;
    }

    /** Four persons, and the vow 0 of the persons 0 and 1 at the place 3, which lacks the form that it needs. */
    static Court vowed() {
        return of(4).does(c -> c.vow(0, 1, 3, 0));
    }

    /** The vow 0, and the cause 0 of it, OPEN, each ground of its doubt proved with 10. */
    static Court inCause(int doubt) {
        return vowed().does(c -> c.cause(0, 3, doubt, false)).proves(0, doubt);
    }

    /** The vow 0, and the cause 0 of it behind these sentences, all grounds proved; appealed where it must be. */
    static Court behind(int... sentences) {
        return behindOf(127, sentences);
    }

    /** As behind, with a doubt of less than all grounds. */
    static Court behindOf(int doubt, int... sentences) {
        Court court = inCause(doubt);
        for (int at = 0; at < sentences.length; at++) {
            if (at == 1 && sentences[0] == 0) {
                court.does(c -> c.appeal(0));
            }
            court.judges(0, sentences[at]);
        }
        return court;
    }

    Court proves(int cause, int grounds) {
        for (int number = 0; number < 7; number++) {
            int ground = number;
            if ((grounds & (1 << ground)) != 0) {
                does(c -> c.proof(cause, ground, 10));
            }
        }
        return this;
    }

    /** Publishes, lets all judges vote for the same grounds, and gives the sentence. */
    Court judges(int cause, int grounds) {
        return does(c -> c.publish(cause)).votes(cause, grounds, grounds, grounds)
                .answers(grounds, c -> c.sentence(cause));
    }

    Court votes(int cause, int first, int second, int third) {
        return does(c -> c.vote(cause, 0, first)).does(c -> c.vote(cause, 1, second))
                .does(c -> c.vote(cause, 2, third));
    }

    /** Makes a call that is possible. */
    Court does(Consumer<VowCourt> call) {
        count();
        call.accept(court);
        steps.add(call);
        return this;
    }

    Court answers(long due, ToLongFunction<VowCourt> call) {
        count();
        long got = call.applyAsLong(court);
        steps.add(call::applyAsLong);
        if (got != due) {
            throw new AssertionError("answered " + got + ", due is " + due);
        }
        return this;
    }

    Court says(boolean due, Predicate<VowCourt> call) {
        return answers(due ? 1 : 0, c -> call.test(c) ? 1 : 0);
    }

    /** The status of a vow, and the day of it, -1 if it STANDS. */
    Court vowIs(int vow, int status, int day) {
        return answers(status, c -> c.vowOf(vow, 0)).answers(day, c -> c.vowOf(vow, 2));
    }

    /** The status, the instance, the doubt, three sentences and the number of votes of a cause. */
    Court causeIs(int cause, int... due) {
        for (int number = 0; number < due.length; number++) {
            int what = number;
            answers(due[what], c -> c.causeOf(cause, what));
        }
        return this;
    }

    /** The whole text of a state, and nothing behind it. */
    Court reads(String due, int person, int day) {
        for (int at = 0; at < due.length(); at++) {
            int place = at;
            answers(due.charAt(place), c -> c.state(person, day, place));
        }
        return answers(0, c -> c.state(person, day, due.length()));
    }

    Court outOfBounds(Consumer<VowCourt> call) {
        return refuses(IndexOutOfBoundsException.class, call);
    }

    Court illegalArgument(Consumer<VowCourt> call) {
        return refuses(IllegalArgumentException.class, call);
    }

    Court illegalState(Consumer<VowCourt> call) {
        return refuses(IllegalStateException.class, call);
    }

    /** Makes calls that ask, at most Probes.MOST_LOOKED_AT, and sees that they change nothing. */
    Court asks(Consumer<VowCourt> calls) {
        Probes.askingChangesNothing(steps, calls);
        return this;
    }

    /** Makes a call that throws just this exception, and changes nothing. */
    Court refuses(Class<?> due, Consumer<VowCourt> call) {
        count();
        Class<?> got = refusalOf(court, call);
        if (got != due) {
            throw new AssertionError("threw " + got + ", due is " + due);
        }
        Probes.refusedChangesNothing(steps, call);
        return this;
    }

    /** What a call throws, or null; it fails if the machine or the library threw it. */
    static Class<?> refusalOf(VowCourt court, Consumer<VowCourt> call) {
        try {
            call.accept(court);
            return null;
        } catch (RuntimeException e) {
            if (!isThrownByCourt(e)) {
                throw new AssertionError("the machine or the library threw " + e);
            }
            return e.getClass();
        }
    }

    /** A list throws IndexOutOfBoundsException too, where a look at the index was forgotten. */
    static boolean isThrownByCourt(Throwable e) {
        StackTraceElement[] trace = e.getStackTrace();
        return trace.length > 0 && trace[0].getClassName().split("\\$")[0].equals("VowCourt");
    }

    private void count() {
        called++;
        if (called > MOST_CALLS) {
            throw new AssertionError("this test calls an object more than " + MOST_CALLS + " times");
        }
    }
}
