import java.util.ArrayList;
import java.util.List;
import java.util.function.Consumer;
import java.util.function.IntFunction;
import java.util.function.ToLongFunction;

/**
 * Many calls by which two courts could be told apart: one to which something was called behind the same steps, and
 * one without. The courts are made anew by their steps as often as it takes to call none more than 512 times.
 */
final class Probes {
    /** So many calls at most may be looked at, together, for whether they change something. */
    static final int MOST_LOOKED_AT = 64;

    private static final int PLACES = 8;
    private static final int WITNESSES = 6;
    private static final int GROUNDS = 7;
    private static final int JUDGES = 3;
    private static final int SOME = 6;
    private static final int MOST_OF_A_KIND = 30;
    private static final int DAYS_LATER = 3;
    private static final int[] DAYS_OF_FACULTIES = {0, 1, 60, 9998};
    private static final int[] KINDS = {VowCourt.AGE, VowCourt.KIN, VowCourt.ORDER};
    private static final long REFUSED = Long.MIN_VALUE;

    private final List<Consumer<VowCourt>> steps;
    private final int daysLater;
    private final Consumer<VowCourt> looked;
    private final StringBuilder heard = new StringBuilder();
    private VowCourt court;
    private int left;
    private int today;
    private int persons;
    private int vows;
    private int causes;

    private Probes(List<Consumer<VowCourt>> steps, int daysLater, Consumer<VowCourt> looked) {
        this.steps = steps;
        this.daysLater = daysLater;
        this.looked = looked;
    }

    /** A call that is refused behind these steps changes nothing, and nothing if it is refused days later. */
    static void refusedChangesNothing(List<Consumer<VowCourt>> steps, Consumer<VowCourt> call) {
        compare(steps, 0, call);
        ArrayList<Consumer<VowCourt>> later = new ArrayList<>(steps);
        later.add(c -> c.pass(DAYS_LATER));
        if (Court.refusalOf(made(later), call) != null) {
            compare(steps, DAYS_LATER, call);
        }
    }

    /** Calls that ask, at most MOST_LOOKED_AT, change nothing. */
    static void askingChangesNothing(List<Consumer<VowCourt>> steps, Consumer<VowCourt> calls) {
        compare(steps, 0, calls);
    }

    private static void compare(List<Consumer<VowCourt>> steps, int daysLater, Consumer<VowCourt> looked) {
        String without = new Probes(steps, daysLater, c -> { }).hear();
        String with = new Probes(steps, daysLater, looked).hear();
        if (!without.equals(with)) {
            int at = 0;
            while (at < without.length() && at < with.length() && without.charAt(at) == with.charAt(at)) {
                at++;
            }
            throw new AssertionError("it changed something: " + around(without, at) + " was heard without it, "
                    + around(with, at) + " with it");
        }
    }

    private static String around(String text, int at) {
        int end = text.indexOf('\n', at);
        return text.substring(text.lastIndexOf('\n', at) + 1, end < 0 ? text.length() : end);
    }

    private static VowCourt made(List<Consumer<VowCourt>> steps) {
        VowCourt court = new VowCourt();
        for (Consumer<VowCourt> step : steps) {
            step.accept(court);
        }
        return court;
    }

    private String hear() {
        renew();
        today = (int) ask("the next day", c -> c.pass(1)) - 1;
        renew();
        persons = count(number -> c -> c.kin(number, number));
        vows = count(number -> c -> c.hindered(number));
        causes = count(number -> c -> c.causeOf(number, 0));
        askOfPersons();
        askOfVows();
        askOfCauses();
        changePersons();
        changeVows();
        changeCauses();
        voteForEach();
        dispenseSome(false, false);
        dispenseSome(true, false);
        dispenseSome(true, true);
        vowEverywhere();
        return heard.toString();
    }

    private void renew() {
        court = made(steps);
        if (daysLater > 0) {
            court.pass(daysLater);
        }
        try {
            looked.accept(court);
        } catch (RuntimeException e) {
            // That it is refused is looked at elsewhere; here it counts what that left behind.
        }
        left = Court.MOST_CALLS - steps.size() - 1 - MOST_LOOKED_AT;
        if (left <= 0) {
            throw new AssertionError("too many steps to ask anything behind them");
        }
    }

    private long ask(String what, ToLongFunction<VowCourt> probe) {
        if (left == 0) {
            renew();
        }
        left--;
        heard.append('\n').append(what).append(": ");
        try {
            long answer = probe.applyAsLong(court);
            heard.append(answer);
            return answer;
        } catch (RuntimeException e) {
            heard.append(e.getClass().getSimpleName());
            return REFUSED;
        }
    }

    private boolean does(String what, Consumer<VowCourt> probe) {
        return ask(what, c -> {
            probe.accept(c);
            return 0;
        }) != REFUSED;
    }

    private int count(IntFunction<ToLongFunction<VowCourt>> asking) {
        for (int number = 0; number <= MOST_OF_A_KIND; number++) {
            if (ask("number " + number, asking.apply(number)) == REFUSED) {
                return number;
            }
        }
        throw new AssertionError("there are more persons, vows or causes than told");
    }

    private void askOfPersons() {
        int[] days = {0, Math.max(0, today - 1), today, today + 1, 1000000};
        for (int number = 0; number < persons; number++) {
            int person = number;
            for (int at = 0; at < persons; at++) {
                int other = at;
                ask("kin " + person + " " + other, c -> c.kin(person, other));
                ask("ancestor " + person + " " + other, c -> c.ancestor(person, other));
            }
            for (int day : days) {
                ask("bound " + person + " " + day, c -> c.bound(person, day));
            }
            ask("state " + person, c -> c.state(person, today, 15));
        }
    }

    private void askOfVows() {
        for (int number = 0; number < vows; number++) {
            int vow = number;
            ask("hindered " + vow, c -> c.hindered(vow));
            for (int at = 0; at < PLACES; at++) {
                int what = at;
                ask("vowOf " + vow + " " + what, c -> c.vowOf(vow, what));
                ask("hasCause " + vow + " " + what, c -> c.hasCause(vow, what) ? 1 : 0);
            }
        }
    }

    private void askOfCauses() {
        for (int number = 0; number < causes; number++) {
            askOfCause(number);
        }
    }

    private void askOfCause(int cause) {
        for (int at = 0; at < 7; at++) {
            int what = at;
            ask("causeOf " + cause + " " + what, c -> c.causeOf(cause, what));
        }
    }

    private void changePersons() {
        renew();
        for (int number = 0; number < persons; number++) {
            int person = number;
            ask("rite " + person, c -> c.rite(person, 1));
            ask("home " + person, c -> c.home(person, 7));
            ask("ban " + person, c -> c.ban(person) ? 1 : 0);
            does("order " + person, c -> c.order(person));
            ask("die " + person, c -> c.die(person));
        }
        ask("another person", c -> c.person(0, -1, -1, 0));
        for (int number = 0; number < PLACES; number++) {
            int place = number;
            ask("error " + place, c -> c.error(place) ? 1 : 0);
        }
    }

    private void changeVows() {
        renew();
        ask("another vow", c -> c.vow(0, 1, 0, 0));
        for (int number = 0; number < vows; number++) {
            int vow = number;
            does("heal " + vow, c -> c.heal(vow));
            ask("cause " + vow, c -> c.cause(vow, 0, 1, true));
            ask("documents " + vow, c -> c.documents(vow));
            does("grace " + vow, c -> c.grace(vow));
        }
    }

    private void changeCauses() {
        renew();
        for (int number = 0; number < causes; number++) {
            int cause = number;
            ask("doubt " + cause, c -> c.doubt(cause, 127));
            weigh(cause);
            ask("publish " + cause, c -> c.publish(cause));
            for (int at = 0; at < JUDGES; at++) {
                int judge = at;
                ask("vote " + cause + " " + judge, c -> c.vote(cause, judge, 0));
            }
            ask("sentence " + cause, c -> c.sentence(cause));
            does("appeal " + cause, c -> c.appeal(cause));
            weigh(cause);
        }
    }

    private void weigh(int cause) {
        for (int at = 0; at < GROUNDS; at++) {
            int ground = at;
            ask("proof " + cause + " " + ground, c -> c.proof(cause, ground, 0));
        }
    }

    /** What may be voted for is found ground by ground; then all who have not voted vote for all of that. */
    private void voteForEach() {
        for (int number = 0; number < Math.min(causes, SOME); number++) {
            int cause = number;
            int votable = 0;
            for (int ground = 0; ground < GROUNDS; ground++) {
                renew();
                votable |= canBeVotedFor(cause, 1 << ground) ? 1 << ground : 0;
            }
            int grounds = votable;
            renew();
            for (int at = 0; at < JUDGES; at++) {
                int judge = at;
                ask("vote " + cause + " " + judge, c -> c.vote(cause, judge, grounds));
            }
            ask("sentence " + cause, c -> c.sentence(cause));
            askOfCause(cause);
        }
    }

    private boolean canBeVotedFor(int cause, int grounds) {
        boolean can = false;
        for (int at = 0; at < JUDGES; at++) {
            int judge = at;
            can |= ask("vote " + cause + " " + judge + " " + grounds, c -> c.vote(cause, judge, grounds)) != REFUSED;
        }
        return can;
    }

    private void dispenseSome(boolean allOrdered, boolean otherFirst) {
        renew();
        for (int number = 0; number < Math.min(persons, SOME); number++) {
            int person = number;
            if (allOrdered) {
                does("order " + person, c -> c.order(person));
            }
            for (int other = 0; other < person; other++) {
                int one = otherFirst ? other : person;
                int two = otherFirst ? person : other;
                for (int kind : KINDS) {
                    does("dispense " + one + " " + two + " " + kind, c -> c.dispense(one, two, kind));
                }
            }
        }
    }

    private void vowEverywhere() {
        for (int number = 0; number < PLACES; number++) {
            int place = number;
            for (int days : DAYS_OF_FACULTIES) {
                renew();
                ask("days later " + days, c -> c.pass(days));
                int one = (int) Math.max(0, ask("one", c -> c.person(Court.GROWN, -1, -1, 0)));
                int other = (int) Math.max(1, ask("other", c -> c.person(Court.GROWN, -1, -1, 0)));
                for (int at = 0; at < WITNESSES; at++) {
                    int witness = at;
                    int vow = (int) ask("vow " + place + " " + witness, c -> c.vow(one, other, place, witness));
                    ask("its form", c -> c.vowOf(vow, 3));
                }
            }
        }
    }
}
