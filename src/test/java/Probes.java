import java.util.List;
import java.util.function.Consumer;
import java.util.function.IntFunction;
import java.util.function.ToLongFunction;

/**
 * Many calls by which two courts could be told apart: one to which a refused call was made behind the same steps,
 * and one without. The courts are made anew by their steps as often as it takes to call none more than 512 times.
 */
final class Probes {
    private static final int PLACES = 8;
    private static final int WITNESSES = 6;
    private static final int SOME_PERSONS = 6;
    private static final int[] DAYS_LATER = {0, 1, 60, 9998};

    private final List<Consumer<VowCourt>> steps;
    private final Consumer<VowCourt> refused;
    private final StringBuilder heard = new StringBuilder();
    private VowCourt court;
    private int left;
    private int today;
    private int persons;
    private int vows;
    private int causes;

    private Probes(List<Consumer<VowCourt>> steps, Consumer<VowCourt> refused) {
        this.steps = steps;
        this.refused = refused;
    }

    static void sameWith(List<Consumer<VowCourt>> steps, Consumer<VowCourt> refused) {
        String without = new Probes(steps, c -> { }).hear();
        String with = new Probes(steps, refused).hear();
        if (!without.equals(with)) {
            int at = 0;
            while (at < without.length() && at < with.length() && without.charAt(at) == with.charAt(at)) {
                at++;
            }
            throw new AssertionError("a refused call changed something: " + around(without, at)
                    + " was heard without it, " + around(with, at) + " with it");
        }
    }

    private static String around(String text, int at) {
        return text.substring(Math.max(0, text.lastIndexOf('\n', at) + 1), Math.min(text.length(), at + 20));
    }

    private String hear() {
        renew();
        today = (int) ask("the next day", c -> c.pass(1)) - 1;
        renew();
        persons = count(number -> c -> c.kin(number, number));
        vows = count(number -> c -> c.hindered(number));
        causes = count(number -> c -> c.causeOf(number, 0));
        askOfPersons();
        askOfVows();
        askOfCauses();
        changePersons();
        changeVows();
        changeCauses();
        dispenseSome();
        vowEverywhere();
        return heard.toString();
    }

    private void renew() {
        court = new VowCourt();
        for (Consumer<VowCourt> step : steps) {
            step.accept(court);
        }
        try {
            refused.accept(court);
        } catch (RuntimeException e) {
            // That it is refused is looked at elsewhere; here it counts what that left behind.
        }
        left = Court.MOST_CALLS - steps.size() - 1;
        if (left <= 0) {
            throw new AssertionError("too many steps to ask anything behind them");
        }
    }

    private long ask(String what, ToLongFunction<VowCourt> probe) {
        if (left == 0) {
            renew();
        }
        left--;
        long answer;
        try {
            answer = probe.applyAsLong(court);
            heard.append('\n').append(what).append(' ').append(answer);
        } catch (RuntimeException e) {
            answer = Long.MIN_VALUE;
            heard.append('\n').append(what).append(' ').append(e.getClass().getSimpleName());
        }
        return answer;
    }

    private void change(String what, Consumer<VowCourt> probe) {
        ask(what, c -> {
            probe.accept(c);
            return 0;
        });
    }

    private int count(IntFunction<ToLongFunction<VowCourt>> asking) {
        int number = 0;
        while (ask("number " + number, asking.apply(number)) != Long.MIN_VALUE) {
            number++;
        }
        return number;
    }

    private void askOfPersons() {
        int[] days = {0, Math.max(0, today - 1), today, today + 1, 1000000};
        for (int number = 0; number < persons; number++) {
            int person = number;
            for (int other = 0; other < persons; other++) {
                int second = other;
                ask("kin " + person + " " + second, c -> c.kin(person, second));
                ask("ancestor " + person + " " + second, c -> c.ancestor(person, second));
            }
            for (int day : days) {
                ask("bound " + person + " " + day, c -> c.bound(person, day));
            }
            ask("state " + person, c -> c.state(person, today, 15));
        }
    }

    private void askOfVows() {
        for (int number = 0; number < vows; number++) {
            int vow = number;
            ask("hindered " + vow, c -> c.hindered(vow));
            for (int at = 0; at < PLACES; at++) {
                int what = at;
                ask("vowOf " + vow + " " + what, c -> c.vowOf(vow, what));
                ask("hasCause " + vow + " " + what, c -> c.hasCause(vow, what) ? 1 : 0);
            }
        }
    }

    private void askOfCauses() {
        for (int number = 0; number < causes; number++) {
            int cause = number;
            for (int at = 0; at < 7; at++) {
                int what = at;
                ask("causeOf " + cause + " " + what, c -> c.causeOf(cause, what));
            }
        }
    }

    private void changePersons() {
        renew();
        for (int number = 0; number < persons; number++) {
            int person = number;
            ask("rite " + person, c -> c.rite(person, 1));
            ask("home " + person, c -> c.home(person, 7));
            ask("ban " + person, c -> c.ban(person) ? 1 : 0);
            change("order " + person, c -> c.order(person));
            ask("die " + person, c -> c.die(person));
        }
        ask("another person", c -> c.person(0, -1, -1, 0));
        for (int number = 0; number < PLACES; number++) {
            int place = number;
            ask("error " + place, c -> c.error(place) ? 1 : 0);
        }
    }

    private void changeVows() {
        renew();
        ask("another vow", c -> c.vow(0, 1, 0, 0));
        for (int number = 0; number < vows; number++) {
            int vow = number;
            change("heal " + vow, c -> c.heal(vow));
            ask("cause " + vow, c -> c.cause(vow, 0, 1, true));
            ask("documents " + vow, c -> c.documents(vow));
            change("grace " + vow, c -> c.grace(vow));
        }
    }

    private void changeCauses() {
        renew();
        for (int number = 0; number < causes; number++) {
            int cause = number;
            for (int at = 0; at < 7; at++) {
                int ground = at;
                ask("proof " + cause + " " + ground, c -> c.proof(cause, ground, 0));
            }
            ask("publish " + cause, c -> c.publish(cause));
            for (int at = 0; at < 3; at++) {
                int judge = at;
                ask("vote " + cause + " " + judge, c -> c.vote(cause, judge, 0));
            }
            ask("sentence " + cause, c -> c.sentence(cause));
            change("appeal " + cause, c -> c.appeal(cause));
        }
    }

    private void dispenseSome() {
        renew();
        for (int number = 0; number < Math.min(persons, SOME_PERSONS); number++) {
            int person = number;
            change("order " + person, c -> c.order(person));
            for (int at = 0; at < person; at++) {
                int other = at;
                for (int kind : new int[] {VowCourt.AGE, VowCourt.KIN, VowCourt.ORDER}) {
                    change("dispense " + person + " " + other + " " + kind, c -> c.dispense(person, other, kind));
                }
            }
        }
    }

    private void vowEverywhere() {
        for (int number = 0; number < PLACES; number++) {
            int place = number;
            for (int days : DAYS_LATER) {
                renew();
                ask("days later " + days, c -> c.pass(days));
                int one = (int) Math.max(0, ask("one", c -> c.person(Court.GROWN, -1, -1, 0)));
                int other = (int) Math.max(1, ask("other", c -> c.person(Court.GROWN, -1, -1, 0)));
                for (int at = 0; at < WITNESSES; at++) {
                    int witness = at;
                    int vow = (int) ask("vow " + place + " " + witness, c -> c.vow(one, other, place, witness));
                    ask("its form", c -> c.vowOf(vow, 3));
                }
            }
        }
    }
}
