/** Promises 23 to 30, and what "Persons, kin" says behind them. */
public final class AskingTest {
    private static final Check CHECK = new Check("AskingTest");

    public static void main(String[] args) {
        promise23Kin();
        promise23KinByTheFewestSteps();
        promise23LongLines();
        promise24Ancestor();
        promise25Hindered();
        promise26VowOf();
        promise27Bound();
        promise28HasCause();
        promise29CauseOf();
        promise30State();
        promise30TwoDigits();
        CHECK.finish();
    }

    private static void promise23Kin() {
        VowCourt court = new VowCourt();
        court.person(0, -1, -1, 0);
        court.person(0, -1, -1, 0);
        court.person(0, 0, 1, 0);
        court.person(0, -1, 0, 0);
        court.person(0, 2, -1, 0);
        court.person(0, 3, -1, 0);
        CHECK.is("oneself", court.kin(1, 1), 1);
        CHECK.is("a parent", court.kin(2, 0), 101);
        CHECK.is("a child", court.kin(0, 3), 101);
        CHECK.is("a grandchild", court.kin(1, 4), 201);
        CHECK.is("of one parent both", court.kin(2, 3), 200);
        CHECK.is("a child of a sister", court.kin(5, 2), 300);
        CHECK.is("children of brothers", court.kin(4, 5), 400);
        CHECK.is("not kin", court.kin(0, 1), -1);
        CHECK.is("not kin, by the father alone", court.kin(1, 5), -1);
        CHECK.fails(court, "no person", Check.INDEX, () -> court.kin(6, 0));
        CHECK.fails(court, "no other one", Check.INDEX, () -> court.kin(0, 6));
        CHECK.fails(court, "person -1", Check.INDEX, () -> court.kin(-1, 0));
        CHECK.fails(court, "other one -1", Check.INDEX, () -> court.kin(0, -1));
    }

    /** Where kin marry: the fewest steps count, and a line only with as few of them. */
    private static void promise23KinByTheFewestSteps() {
        VowCourt court = new VowCourt();
        court.person(0, -1, -1, 0);
        court.person(0, 0, -1, 0);
        court.person(0, 1, 0, 0);
        CHECK.is("father's father, and mother", court.kin(2, 0), 101);
        CHECK.is("a father who is a brother too", court.kin(2, 1), 101);
        court.person(0, 2, -1, 0);
        CHECK.is("a line of two, and two of one", court.kin(3, 1), 201);
        VowCourt other = new VowCourt();
        other.person(0, -1, -1, 0);
        other.person(0, -1, -1, 0);
        other.person(0, 1, -1, 0);
        other.person(0, 2, -1, 0);
        other.person(0, 3, 0, 0);
        other.person(0, 0, -1, 0);
        other.person(0, 5, 4, 0);
        CHECK.is("a short way beside a line", other.kin(6, 1), 401);
        other.person(0, 1, 0, 0);
        CHECK.is("two ways of 3", other.kin(4, 7), 200);
        CHECK.is("by the mother, not the long line", other.kin(7, 6), 300);
        VowCourt tie = new VowCourt();
        tie.person(0, -1, -1, 0);
        tie.person(0, 0, -1, 0);
        tie.person(0, 1, -1, 0);
        tie.person(0, 2, 0, 0);
        CHECK.is("a line of 2, and a way of 2", tie.kin(3, 1), 201);
        tie.person(0, 3, -1, 0);
        CHECK.is("a line of 3, and a way of 3", tie.kin(4, 1), 301);
        VowCourt shorter = new VowCourt();
        shorter.person(0, -1, -1, 0);
        shorter.person(0, 0, -1, 0);
        shorter.person(0, 1, -1, 0);
        shorter.person(0, 2, -1, 0);
        shorter.person(0, 3, 0, 0);
        CHECK.is("a line of 3, but a way of 2", shorter.kin(4, 1), 200);
        CHECK.is("the other way round", shorter.kin(1, 4), 200);
    }

    private static void promise23LongLines() {
        VowCourt court = new VowCourt();
        court.person(0, -1, -1, 0);
        for (int number = 1; number < 24; number++) {
            court.person(0, -1, number - 1, 0);
        }
        CHECK.is("23 steps", court.kin(0, 23), 2301);
        CHECK.is("the 23rd of the line", court.ancestor(23, 22), 0);
        CHECK.is("no 24th", court.ancestor(23, 23), -1);
        VowCourt fork = new VowCourt();
        fork.person(0, -1, -1, 0);
        fork.person(0, 0, -1, 0);
        fork.person(0, 0, -1, 0);
        for (int number = 3; number < 24; number++) {
            fork.person(0, number - 2, -1, 0);
        }
        CHECK.is("two long lines", fork.kin(23, 22), 2300);
    }

    private static void promise24Ancestor() {
        VowCourt court = new VowCourt();
        court.person(0, -1, -1, 0);
        court.person(0, -1, -1, 0);
        court.person(0, 1, 0, 0);
        court.person(0, 0, -1, 0);
        court.person(0, 3, 2, 0);
        court.person(0, 0, 4, 0);
        int[] due = {0, 4, 2, 3, 1, -1, -1};
        for (int place = 0; place < due.length; place++) {
            CHECK.is("of 5 at " + place, court.ancestor(5, place), due[place]);
        }
        CHECK.is("none", court.ancestor(0, 0), -1);
        CHECK.is("far behind", court.ancestor(5, Integer.MAX_VALUE), -1);
        CHECK.is("by numbers, not by father and mother", court.ancestor(4, 0), 2);
        CHECK.is("then the father", court.ancestor(4, 1), 3);
        CHECK.is("one of both lines once", court.ancestor(4, 2), 0);
        CHECK.is("then the other one", court.ancestor(4, 3), 1);
        CHECK.is("no more", court.ancestor(4, 4), -1);
        CHECK.fails(court, "no person", Check.INDEX, () -> court.ancestor(6, 0));
        CHECK.fails(court, "person -1", Check.INDEX, () -> court.ancestor(-1, 0));
        CHECK.fails(court, "place -1", Check.INDEX, () -> court.ancestor(0, -1));
    }

    private static void promise25Hindered() {
        VowCourt court = new VowCourt();
        court.person(9000, -1, -1, 0);
        court.person(0, 0, -1, 0);
        court.vow(0, 1, 0, 0);
        court.order(1);
        CHECK.is("age and kin, the order came later", court.hindered(0), VowCourt.AGE + VowCourt.KIN);
        court.vow(0, 1, 0, 0);
        CHECK.is("all", court.hindered(1), 15);
        court.documents(0);
        CHECK.is("as is known now", court.hindered(1), 11);
        CHECK.is("of one that is null", court.hindered(0), 3);
        CHECK.fails(court, "no vow", Check.INDEX, () -> court.hindered(2));
        CHECK.fails(court, "vow -1", Check.INDEX, () -> court.hindered(-1));
    }

    private static void promise26VowOf() {
        VowCourt court = Courts.with(4);
        court.pass(7);
        court.vow(0, 1, 6, 0);
        int[] due = {VowCourt.STANDS, 7, -1, 1, 6};
        for (int what = 0; what < due.length; what++) {
            CHECK.is("thing " + what, court.vowOf(0, what), due[what]);
        }
        court.vow(2, 3, 5, 0);
        court.pass(3);
        court.grace(1);
        CHECK.is("dissolved", court.vowOf(1, 0), VowCourt.DISSOLVED);
        CHECK.is("on the day", court.vowOf(1, 2), 10);
        court.die(1);
        CHECK.is("ended", court.vowOf(0, 0), VowCourt.ENDED);
        CHECK.is("on that day", court.vowOf(0, 2), 10);
        court.pass(4);
        court.documents(0);
        CHECK.is("null", court.vowOf(0, 0), VowCourt.NULL);
        CHECK.is("on the day when it was found", court.vowOf(0, 2), 14);
        CHECK.is("the day of the vow stays", court.vowOf(0, 1), 7);
        CHECK.is("and its lack", court.vowOf(0, 3), 1);
        CHECK.fails(court, "what 5", Check.ARGUMENT, () -> court.vowOf(0, 5));
        CHECK.fails(court, "what -1", Check.ARGUMENT, () -> court.vowOf(0, -1));
        CHECK.fails(court, "no vow, what 5", Check.INDEX, () -> court.vowOf(2, 5));
        CHECK.fails(court, "vow -1", Check.INDEX, () -> court.vowOf(-1, 0));
    }

    private static void promise27Bound() {
        VowCourt court = Courts.with(4);
        court.pass(10);
        court.vow(0, 1, 0, 0);
        court.pass(10);
        court.vow(2, 1, 0, 0);
        CHECK.is("ahead of the vow", court.bound(0, 9), -1);
        CHECK.is("on the day", court.bound(0, 10), 0);
        CHECK.is("to come", court.bound(0, 1000000), 0);
        CHECK.is("the lowest one", court.bound(1, 20), 0);
        CHECK.is("the other one", court.bound(2, 20), 1);
        CHECK.is("without a vow", court.bound(3, 20), -1);
        court.pass(10);
        court.die(0);
        CHECK.is("a day ahead of the end", court.bound(1, 29), 0);
        CHECK.is("the day of the end", court.bound(1, 30), 1);
        CHECK.is("the dead too", court.bound(0, 29), 0);
        CHECK.is("the dead no more", court.bound(0, 30), -1);
        court.documents(0);
        CHECK.is("never, as is known now", court.bound(1, 15), -1);
        CHECK.is("by the second one", court.bound(1, 20), 1);
        CHECK.fails(court, "no person, no day", Check.INDEX, () -> court.bound(4, -1));
        CHECK.fails(court, "person -1", Check.INDEX, () -> court.bound(-1, 0));
        CHECK.fails(court, "day -1", Check.ARGUMENT, () -> court.bound(0, -1));
        CHECK.fails(court, "day 1000001", Check.ARGUMENT, () -> court.bound(0, 1000001));
        CHECK.is("day 0", court.bound(0, 0), -1);
    }

    private static void promise28HasCause() {
        VowCourt court = Courts.withVow(3);
        boolean[] due = {true, true, false, true, false, false, false, false};
        for (int place = 0; place < due.length; place++) {
            CHECK.is("place " + place, court.hasCause(0, place), due[place]);
        }
        court.home(1, 7);
        CHECK.is("the new home", court.hasCause(0, 7), true);
        CHECK.is("the old home", court.hasCause(0, 1), false);
        court.die(0);
        CHECK.is("the home of the dead", court.hasCause(0, 0), false);
        CHECK.is("the home of the other one", court.hasCause(0, 7), true);
        court.die(1);
        CHECK.is("the home of both dead", court.hasCause(0, 7), false);
        CHECK.is("the place of the vow", court.hasCause(0, 3), true);
        court.documents(0);
        CHECK.is("a null vow's place", court.hasCause(0, 3), true);
        CHECK.fails(court, "no vow, no place", Check.INDEX, () -> court.hasCause(1, 8));
        CHECK.fails(court, "vow -1", Check.INDEX, () -> court.hasCause(-1, 0));
        CHECK.fails(court, "place 8", Check.ARGUMENT, () -> court.hasCause(0, 8));
        CHECK.fails(court, "place -1", Check.ARGUMENT, () -> court.hasCause(0, -1));
    }

    private static void promise29CauseOf() {
        VowCourt court = Courts.withCause(6);
        isCause(court, VowCourt.OPEN, 1, 6, -1, -1, -1, 0);
        court.publish(0);
        court.vote(0, 1, 2);
        isCause(court, VowCourt.PUBLISHED, 1, 6, -1, -1, -1, 1);
        court.vote(0, 0, 2);
        court.vote(0, 2, 2);
        court.sentence(0);
        isCause(court, VowCourt.OPEN, 2, 6, 2, -1, -1, 0);
        Courts.judge(court, 0, 4);
        isCause(court, VowCourt.OPEN, 3, 6, 2, 4, -1, 0);
        Courts.judge(court, 0, 6);
        isCause(court, VowCourt.NULLIFIED, 3, 6, 2, 4, 6, 3);
        CHECK.fails(court, "what 7", Check.ARGUMENT, () -> court.causeOf(0, 7));
        CHECK.fails(court, "what -1", Check.ARGUMENT, () -> court.causeOf(0, -1));
        CHECK.fails(court, "no cause, what 7", Check.INDEX, () -> court.causeOf(1, 7));
        CHECK.fails(court, "cause -1", Check.INDEX, () -> court.causeOf(-1, 0));
    }

    private static void isCause(VowCourt court, int... due) {
        for (int what = 0; what < due.length; what++) {
            CHECK.is("thing " + what, court.causeOf(0, what), due[what]);
        }
    }

    private static void promise30State() {
        VowCourt court = Courts.with(3);
        court.pass(5);
        court.vow(0, 2, 0, 0);
        CHECK.is("free", Snapshot.state(court, 0, 4), "free");
        CHECK.is("behind free", court.state(0, 4, 4), 0);
        CHECK.is("bound", Snapshot.state(court, 0, 5), "bound by 0 to 2");
        CHECK.is("the other one", Snapshot.state(court, 2, 1000000), "bound by 0 to 0");
        CHECK.is("far behind", court.state(0, 5, Integer.MAX_VALUE), 0);
        CHECK.is("another person", Snapshot.state(court, 1, 5), "free");
        CHECK.fails(court, "no person, no day", Check.INDEX, () -> court.state(3, -1, 0));
        CHECK.fails(court, "person -1", Check.INDEX, () -> court.state(-1, 0, 0));
        CHECK.fails(court, "place -1, no day", Check.INDEX, () -> court.state(0, -1, -1));
        CHECK.fails(court, "day -1", Check.ARGUMENT, () -> court.state(0, -1, 0));
        CHECK.fails(court, "day 1000001", Check.ARGUMENT, () -> court.state(0, 1000001, 0));
    }

    private static void promise30TwoDigits() {
        VowCourt court = Courts.with(24);
        for (int number = 0; number < 12; number++) {
            court.vow(number, 23 - number, 0, 0);
        }
        CHECK.is("two digits", Snapshot.state(court, 11, 0), "bound by 11 to 12");
        CHECK.is("the last one", Snapshot.state(court, 0, 0), "bound by 0 to 23");
        court.vow(0, 1, 0, 0);
        CHECK.is("the lowest one", Snapshot.state(court, 1, 0), "bound by 1 to 22");
    }
}
