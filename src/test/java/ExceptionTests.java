import java.util.function.Consumer;

/**
 * "If several apply, IndexOutOfBoundsException goes first, then IllegalArgumentException. A call that throws an
 * exception changes nothing." Each refused call of all tests is looked at for the second sentence; here it is made
 * on a court with much to change.
 */
final class ExceptionTests {
    private ExceptionTests() {
    }

    static void tell(Suite suite) {
        indexBeforeArgument(suite);
        indexBeforeArgumentOfVows(suite);
        indexBeforeArgumentAsking(suite);
        indexBeforeState(suite);
        argumentBeforeState(suite);
        argumentBeforeStateOfCauses(suite);
        allThree(suite);
        changesNothing(suite);
        askingChangesNothing(suite);
    }

    private static void index(Suite suite, String what, Consumer<VowCourt> call) {
        suite.test("IndexOutOfBoundsException first: " + what, () -> full().outOfBounds(call));
    }

    private static void argument(Suite suite, String what, Consumer<VowCourt> call) {
        suite.test("then IllegalArgumentException: " + what, () -> full().illegalArgument(call));
    }

    private static void state(Suite suite, String what, Consumer<VowCourt> call) {
        suite.test("a call that throws changes nothing: " + what, () -> full().illegalState(call));
    }

    /**
     * A court with 24 persons, of whom 7 is banned, 6 dead, 4 ordered, 8 and 9 kin; 30 vows, of which 0 is NULL, 1
     * DISSOLVED, 2 ENDED, 3 healed, 4 in court; the causes 0 OPEN, 1 PUBLISHED with a vote, 2 REFUSED, 3 OPEN in the
     * second instance, 4 NULLIFIED; and ORDER dispensed for 4 and 5.
     */
    private static Court full() {
        Court court = Court.of(8).does(c -> c.pass(100));
        court.does(c -> c.person(5100, 3, -1, 1)).does(c -> c.person(9000, 8, 3, 2)).does(c -> c.faculty(2, 2, 50));
        for (int person = 10; person < 24; person++) {
            court.does(c -> c.person(9000, -1, -1, 5));
        }
        court.does(c -> c.order(4)).does(c -> c.dispense(4, 5, VowCourt.ORDER)).does(c -> c.rite(5, 2));
        court.does(c -> c.vow(0, 1, 3, 0)).does(c -> c.vow(1, 2, 4, 1)).does(c -> c.vow(2, 6, 5, 2));
        court.does(c -> c.vow(10, 11, 6, 3)).does(c -> c.vow(12, 13, 7, 4)).does(c -> c.vow(14, 15, 2, 2));
        for (int vow = 6; vow < 30; vow++) {
            court.does(c -> c.vow(16, 17, 1, 5));
        }
        court.does(c -> c.documents(0)).does(c -> c.pass(3)).does(c -> c.grace(1)).does(c -> c.die(6));
        court.does(c -> c.heal(3)).does(c -> c.ban(7)).does(c -> c.error(1));
        court.does(c -> c.cause(4, 7, 7, false)).proves(0, 7);
        court.does(c -> c.cause(2, 5, 1, false)).proves(1, 1).does(c -> c.publish(1)).does(c -> c.vote(1, 0, 1));
        court.does(c -> c.cause(5, 0, 1, true)).judges(2, 0);
        court.does(c -> c.cause(29, 1, 1, false)).proves(3, 1).judges(3, 1);
        court.does(c -> c.cause(28, 1, 1, false)).proves(4, 1).judges(4, 1).judges(4, 1);
        return court;
    }

    private static void indexBeforeArgument(Suite suite) {
        index(suite, "person: no father, age out of range", c -> c.person(-1, 24, -1, 0));
        index(suite, "person: no mother, age out of range", c -> c.person(36001, -1, 24, 0));
        index(suite, "person: no father, home out of range", c -> c.person(0, -2, -1, 8));
        index(suite, "person: no mother, home out of range", c -> c.person(0, -1, -2, -1));
        index(suite, "person: both are the same, who is not there", c -> c.person(0, 24, 24, 0));
        index(suite, "person: both are the same -2", c -> c.person(0, -2, -2, 0));
        index(suite, "rite: no person, rite out of range", c -> c.rite(24, 3));
        index(suite, "rite: person -1, rite out of range", c -> c.rite(-1, -1));
        index(suite, "home: no person, home out of range", c -> c.home(24, 8));
        index(suite, "home: person -1, home out of range", c -> c.home(-1, -1));
    }

    private static void indexBeforeArgumentOfVows(Suite suite) {
        index(suite, "dispense: no person, kind BOND", c -> c.dispense(24, 0, VowCourt.BOND));
        index(suite, "dispense: no other one, kind 0", c -> c.dispense(0, 24, 0));
        index(suite, "dispense: person -1, kind 3", c -> c.dispense(-1, 0, 3));
        index(suite, "dispense: both are the same, who is not there", c -> c.dispense(24, 24, VowCourt.ORDER));
        index(suite, "dispense: both are the same -1", c -> c.dispense(-1, -1, VowCourt.AGE));
        index(suite, "vow: no person, place out of range", c -> c.vow(24, 0, 8, 0));
        index(suite, "vow: no other one, place out of range", c -> c.vow(0, 24, -1, 0));
        index(suite, "vow: no person, witness out of range", c -> c.vow(-1, 0, 0, 6));
        index(suite, "vow: no other one, witness out of range", c -> c.vow(0, -1, 0, -1));
        index(suite, "vow: both are the same, who is not there", c -> c.vow(24, 24, 0, 0));
        index(suite, "vow: both are the same -1", c -> c.vow(-1, -1, 0, 0));
        index(suite, "cause: no vow, place out of range", c -> c.cause(30, 8, 1, true));
        index(suite, "cause: vow -1, doubt out of range", c -> c.cause(-1, 0, 0, true));
        index(suite, "doubt: no cause, doubt out of range", c -> c.doubt(5, 0));
        index(suite, "doubt: cause -1, doubt out of range", c -> c.doubt(-1, 128));
        index(suite, "proof: no cause, ground out of range", c -> c.proof(5, 7, 0));
        index(suite, "proof: cause -1, weight out of range", c -> c.proof(-1, 0, 11));
        index(suite, "vote: no cause, grounds out of range", c -> c.vote(5, 0, 128));
        index(suite, "vote: no judge, grounds out of range", c -> c.vote(1, 3, -1));
        index(suite, "vote: judge -1, grounds out of range", c -> c.vote(1, -1, 128));
        index(suite, "vote: neither cause nor judge", c -> c.vote(5, 3, 0));
    }

    private static void indexBeforeArgumentAsking(Suite suite) {
        index(suite, "ancestor: neither person nor place", c -> c.ancestor(24, -1));
        index(suite, "vowOf: no vow, what out of range", c -> c.vowOf(30, 5));
        index(suite, "vowOf: vow -1, what out of range", c -> c.vowOf(-1, -1));
        index(suite, "bound: no person, day out of range", c -> c.bound(24, -1));
        index(suite, "bound: person -1, day out of range", c -> c.bound(-1, 1000001));
        index(suite, "hasCause: no vow, place out of range", c -> c.hasCause(30, 8));
        index(suite, "hasCause: vow -1, place out of range", c -> c.hasCause(-1, -1));
        index(suite, "causeOf: no cause, what out of range", c -> c.causeOf(5, 7));
        index(suite, "causeOf: cause -1, what out of range", c -> c.causeOf(-1, -1));
        index(suite, "state: no person, day out of range", c -> c.state(24, -1, 0));
        index(suite, "state: place -1, day out of range", c -> c.state(0, 1000001, -1));
        index(suite, "state: neither person nor place", c -> c.state(-1, 0, -1));
        index(suite, "state: neither person, nor place, nor day", c -> c.state(24, -1, -1));
    }

    private static void indexBeforeState(Suite suite) {
        index(suite, "person: no father, and 24 persons", c -> c.person(0, 24, -1, 0));
        index(suite, "person: no mother, and 24 persons", c -> c.person(0, -1, 24, 0));
        index(suite, "dispense: no other one, and it would not hinder", c -> c.dispense(0, 24, VowCourt.ORDER));
        index(suite, "vow: no person, the other one is dead", c -> c.vow(24, 6, 0, 0));
        index(suite, "vow: no other one, the first is banned", c -> c.vow(7, 24, 0, 0));
        index(suite, "vow: no person, and 30 vows", c -> c.vow(24, 0, 0, 0));
        index(suite, "vote: no judge, and the cause is OPEN", c -> c.vote(0, 3, 0));
        index(suite, "vote: judge -1, and the cause is REFUSED", c -> c.vote(2, -1, 0));
        index(suite, "cause: no vow, and no court", c -> c.cause(30, 0, 1, false));
    }

    private static void argumentBeforeState(Suite suite) {
        argument(suite, "person: age out of range, and 24 persons", c -> c.person(36001, -1, -1, 0));
        argument(suite, "person: home out of range, and 24 persons", c -> c.person(0, -1, -1, 8));
        argument(suite, "person: both are the same, and 24 persons", c -> c.person(0, 3, 3, 0));
        argument(suite, "dispense: both are the same, and it would not hinder", c -> c.dispense(0, 0, VowCourt.KIN));
        argument(suite, "dispense: kind BOND, and it would not hinder", c -> c.dispense(0, 1, VowCourt.BOND));
        argument(suite, "dispense: kind 9, and ORDER was dispensed", c -> c.dispense(4, 5, 9));
        argument(suite, "vow: both are the same, and dead", c -> c.vow(6, 6, 0, 0));
        argument(suite, "vow: both are the same, and banned", c -> c.vow(7, 7, 0, 0));
        argument(suite, "vow: place out of range, one is dead", c -> c.vow(0, 6, 8, 0));
        argument(suite, "vow: witness out of range, one is banned", c -> c.vow(7, 0, 0, 6));
        argument(suite, "vow: place out of range, and 30 vows", c -> c.vow(0, 1, -1, 0));
        argument(suite, "vow: witness out of range, and 30 vows", c -> c.vow(0, 1, 0, -1));
    }

    private static void argumentBeforeStateOfCauses(Suite suite) {
        argument(suite, "cause: place out of range, the vow is NULL", c -> c.cause(0, 8, 1, true));
        argument(suite, "cause: doubt out of range, the vow is DISSOLVED", c -> c.cause(1, 0, 0, true));
        argument(suite, "cause: doubt out of range, another cause is OPEN", c -> c.cause(4, 7, 128, true));
        argument(suite, "cause: place out of range, without leave", c -> c.cause(5, -1, 1, false));
        argument(suite, "cause: doubt out of range, no court", c -> c.cause(5, 0, 0, false));
        argument(suite, "doubt: out of range, the cause is PUBLISHED", c -> c.doubt(1, 0));
        argument(suite, "doubt: out of range, the cause is OPEN in the second instance", c -> c.doubt(3, 128));
        argument(suite, "proof: ground out of range, the cause is PUBLISHED", c -> c.proof(1, 7, 0));
        argument(suite, "proof: weight out of range, the cause is REFUSED", c -> c.proof(2, 0, 11));
        argument(suite, "proof: weight out of range, the ground is not of the doubt", c -> c.proof(0, 6, -11));
        argument(suite, "vote: grounds out of range, the cause is OPEN", c -> c.vote(0, 0, 128));
        argument(suite, "vote: grounds out of range, the judge has voted", c -> c.vote(1, 0, -1));
        argument(suite, "vote: grounds out of range, the cause is NULLIFIED", c -> c.vote(4, 0, 128));
    }

    private static void allThree(Suite suite) {
        index(suite, "person: no father, age out of range, and 24 persons", c -> c.person(-1, 24, -1, 9));
        index(suite, "dispense: no other one, kind BOND, nothing hinders", c -> c.dispense(0, 24, VowCourt.BOND));
        index(suite, "vow: no other one, place out of range, the first is dead", c -> c.vow(6, 24, 8, 6));
        index(suite, "vote: no judge, grounds out of range, the cause is OPEN", c -> c.vote(0, 3, 128));
    }

    private static void changesNothing(Suite suite) {
        state(suite, "person, with 24 persons", c -> c.person(0, 0, 1, 0));
        state(suite, "order, of one who has taken it", c -> c.order(4));
        state(suite, "order, of the dead", c -> c.order(6));
        state(suite, "die, of the dead", c -> c.die(6));
        state(suite, "dispense, what was", c -> c.dispense(5, 4, VowCourt.ORDER));
        state(suite, "dispense, what would not hinder", c -> c.dispense(0, 1, VowCourt.KIN));
        state(suite, "dispense, what cannot be", c -> c.dispense(8, 9, VowCourt.KIN));
        state(suite, "vow, with 30 vows", c -> c.vow(20, 21, 0, 0));
        state(suite, "vow, of the dead", c -> c.vow(6, 20, 0, 0));
        state(suite, "heal, of one that is healed", c -> c.heal(3));
        state(suite, "heal, of one that is NULL", c -> c.heal(0));
        state(suite, "grace, of one that is NULL", c -> c.grace(0));
        state(suite, "grace, of one in court", c -> c.grace(4));
        state(suite, "documents, of one that is DISSOLVED", c -> c.documents(1));
        state(suite, "documents, of one in court", c -> c.documents(2));
        state(suite, "cause, of one that is NULL", c -> c.cause(0, 0, 1, true));
        state(suite, "cause, at a place without court", c -> c.cause(5, 6, 1, false));
        state(suite, "doubt, of one that is PUBLISHED", c -> c.doubt(1, 127));
        state(suite, "proof, of a ground that is not of the doubt", c -> c.proof(0, 6, 10));
        state(suite, "proof, of one that is PUBLISHED", c -> c.proof(1, 0, -10));
        state(suite, "publish, of one that is PUBLISHED", c -> c.publish(1));
        state(suite, "vote, of one who has voted", c -> c.vote(1, 0, 0));
        state(suite, "vote, for what was not proved", c -> c.vote(1, 1, 3));
        state(suite, "sentence, with one vote", c -> c.sentence(1));
        state(suite, "sentence, of one that is OPEN in the second instance", c -> c.sentence(3));
        state(suite, "appeal, of one that is NULLIFIED", c -> c.appeal(4));
        state(suite, "appeal, of one that is OPEN", c -> c.appeal(0));
        argument(suite, "pass changes nothing", c -> c.pass(0));
        argument(suite, "faculty changes nothing", c -> c.faculty(2, 2, 10001));
        argument(suite, "error changes nothing", c -> c.error(8));
    }

    private static void asks(Suite suite, String what, Consumer<VowCourt> calls) {
        suite.test("asking changes nothing: " + what, () -> full().asks(calls));
    }

    private static void askingChangesNothing(Suite suite) {
        asks(suite, "kin", c -> {
            for (int pair = 0; pair < 64; pair++) {
                c.kin(3 + pair / 8, 3 + pair % 8);
            }
        });
        asks(suite, "ancestor", c -> {
            for (int row = 0; row < 64; row++) {
                c.ancestor(3 + row / 8, row % 8);
            }
        });
        asks(suite, "hindered", c -> {
            for (int vow = 0; vow < 30; vow++) {
                c.hindered(vow);
            }
        });
        asks(suite, "vowOf", c -> {
            for (int row = 0; row < 60; row++) {
                c.vowOf(row / 5, row % 5);
            }
        });
        asks(suite, "bound", c -> {
            for (int row = 0; row < 64; row++) {
                c.bound(row % 24, row < 24 ? 1000000 : 80 + row);
            }
        });
        asks(suite, "hasCause", c -> {
            for (int row = 0; row < 64; row++) {
                c.hasCause(row / 8, row % 8);
            }
        });
        asks(suite, "causeOf", c -> {
            for (int row = 0; row < 35; row++) {
                c.causeOf(row / 7, row % 7);
            }
        });
        asks(suite, "state", c -> {
            for (int row = 0; row < 64; row++) {
                c.state(row % 24, row < 24 ? 1000000 : 80 + row, row % 20);
            }
        });
    }
}
