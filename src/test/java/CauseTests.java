/** Promises 15, 16 and 28, and what "Causes" says of a cause as it is opened. */
final class CauseTests {
    private CauseTests() {
    }

    static void tell(Suite suite) {
        cause(suite);
        ofWhichVow(suite);
        otherCauses(suite);
        court(suite);
        atMost30(suite);
        doubt(suite);
        doubtIsRefused(suite);
        doubtKeepsProofs(suite);
        hasCause(suite);
    }

    private static void cause(Suite suite) {
        suite.test("promise 15: causes are numbered from 0, one behind the other", () ->
                Court.vowed().does(c -> c.vow(2, 3, 3, 0)).answers(0, c -> c.cause(1, 3, 1, false))
                        .answers(1, c -> c.cause(0, 3, 1, false)));
        suite.test("promise 15: a cause is OPEN, in the instance 1, with its doubt, without sentences and votes", () ->
                Court.vowed().does(c -> c.cause(0, 3, 42, false)).causeIs(0, VowCourt.OPEN, 1, 42, -1, -1, -1, 0));
        suite.test("promise 15: nothing is proved at first", () ->
                Court.vowed().does(c -> c.cause(0, 3, 127, false)).answers(0, c -> c.publish(0)));
        suite.test("promise 15: a cause leaves its vow as it was", () ->
                Court.vowed().does(c -> c.cause(0, 3, 1, false)).vowIs(0, VowCourt.STANDS, -1)
                        .answers(0, c -> c.bound(0, 0)));
        suite.test("promise 15: the doubt may be of a ground that has nothing to it", () ->
                Court.of(2).does(c -> c.error(0)).does(c -> c.vow(0, 1, 0, 0))
                        .answers(0, c -> c.cause(0, 0, 3, false)));
        suite.test("promise 15: a refused cause takes no number", () ->
                Court.vowed().illegalState(c -> c.cause(0, 2, 1, false)).illegalArgument(c -> c.cause(0, 3, 0, false))
                        .answers(0, c -> c.cause(0, 3, 1, false)));
    }

    private static void ofWhichVow(Suite suite) {
        suite.test("promise 15: of a vow that STANDS", () -> Court.vowed().answers(0, c -> c.cause(0, 3, 1, false)));
        suite.test("promise 15: of a vow that has ENDED", () ->
                Court.vowed().does(c -> c.die(0)).answers(0, c -> c.cause(0, 3, 1, false)));
        suite.test("promise 15: of a vow that has ENDED, both are dead", () ->
                Court.vowed().does(c -> c.die(0)).does(c -> c.die(1)).answers(0, c -> c.cause(0, 3, 1, false)));
        suite.test("promise 15: not of a vow that is DISSOLVED", () ->
                Court.vowed().does(c -> c.grace(0)).illegalState(c -> c.cause(0, 3, 1, false)));
        suite.test("promise 15: not of a vow that is DISSOLVED, by leave", () ->
                Court.vowed().does(c -> c.grace(0)).illegalState(c -> c.cause(0, 3, 1, true)));
        suite.test("promise 15: not of a vow that is NULL by documents", () ->
                Court.vowed().does(c -> c.documents(0)).illegalState(c -> c.cause(0, 3, 1, false)));
        suite.test("promise 15: not of a vow that is NULL by sentences", () ->
                Court.behind(2, 2).illegalState(c -> c.cause(0, 3, 1, true)));
        suite.test("promise 15: of a vow that was healed", () ->
                Court.vowed().does(c -> c.heal(0)).answers(0, c -> c.cause(0, 3, 2, false)));
    }

    private static void otherCauses(Suite suite) {
        suite.test("promise 15: another cause of it is OPEN", () ->
                Court.inCause(1).illegalState(c -> c.cause(0, 3, 1, false)));
        suite.test("promise 15: another cause of it is OPEN, also for a court by leave", () ->
                Court.inCause(1).illegalState(c -> c.cause(0, 2, 2, true)));
        suite.test("promise 15: another cause of it is PUBLISHED", () ->
                Court.inCause(1).does(c -> c.publish(0)).illegalState(c -> c.cause(0, 3, 1, false)));
        suite.test("promise 15: another cause of it is OPEN in the second instance", () ->
                Court.behind(1).illegalState(c -> c.cause(0, 3, 1, false)));
        suite.test("promise 15: another cause of it is PUBLISHED in the second instance", () ->
                Court.behind(1).does(c -> c.publish(0)).illegalState(c -> c.cause(0, 3, 1, false)));
        suite.test("promise 15: another cause of it is OPEN by appeal", () ->
                Court.behind(0).does(c -> c.appeal(0)).illegalState(c -> c.cause(0, 3, 1, false)));
        suite.test("promise 15: another cause of it is OPEN in the third instance", () ->
                Court.behind(1, 0).illegalState(c -> c.cause(0, 3, 1, false)));
        suite.test("promise 15: another cause of it is REFUSED in the first instance", () ->
                Court.behind(0).answers(1, c -> c.cause(0, 3, 1, false)));
        suite.test("promise 15: another cause of it is REFUSED in the second instance", () ->
                Court.behind(0, 0).answers(1, c -> c.cause(0, 3, 1, false)));
        suite.test("promise 15: another cause of it is REFUSED in the third instance", () ->
                Court.behind(1, 0, 0).answers(1, c -> c.cause(0, 3, 1, false)));
        suite.test("promise 15: a cause of another vow is OPEN", () ->
                Court.inCause(1).does(c -> c.vow(2, 3, 3, 0)).answers(1, c -> c.cause(1, 3, 1, false)));
        suite.test("promise 15: a cause knows nothing of what was proved in another one", () ->
                Court.behind(0).does(c -> c.cause(0, 3, 127, false)).answers(0, c -> c.proof(1, 0, 0))
                        .answers(0, c -> c.publish(1)));
    }

    private static void court(Suite suite) {
        suite.test("promise 15: a place without the cause has no court", () ->
                Court.vowed().illegalState(c -> c.cause(0, 2, 1, false)));
        suite.test("promise 15: the place of the vow has it", () ->
                Court.vowed().answers(0, c -> c.cause(0, 3, 1, false)));
        suite.test("promise 15: the home of the first of both has it", () ->
                Court.vowed().answers(0, c -> c.cause(0, 0, 1, false)));
        suite.test("promise 15: the home of the other of both has it", () ->
                Court.vowed().answers(0, c -> c.cause(0, 1, 1, false)));
        for (int at = 0; at < 8; at++) {
            int place = at;
            suite.test("promise 15: any with leave: the place " + place, () ->
                    Court.vowed().answers(0, c -> c.cause(0, place, 1, true)));
        }
        suite.test("promise 15: the home of the first of both has it not when that one is dead", () ->
                Court.vowed().does(c -> c.die(0)).illegalState(c -> c.cause(0, 0, 1, false))
                        .answers(0, c -> c.cause(0, 1, 1, false)));
        suite.test("promise 15: the home of the other of both has it not when that one is dead", () ->
                Court.vowed().does(c -> c.die(1)).illegalState(c -> c.cause(0, 1, 1, false))
                        .answers(0, c -> c.cause(0, 0, 1, false)));
        suite.test("promise 15: the home of the dead with leave", () ->
                Court.vowed().does(c -> c.die(0)).answers(0, c -> c.cause(0, 0, 1, true)));
        suite.test("promise 15: a former home has it not", () ->
                Court.vowed().does(c -> c.home(0, 5)).illegalState(c -> c.cause(0, 0, 1, false))
                        .answers(0, c -> c.cause(0, 5, 1, false)));
        suite.test("promise 15: the home of a third person has it not", () ->
                Court.vowed().does(c -> c.home(2, 6)).illegalState(c -> c.cause(0, 6, 1, false)));
        suite.test("promise 15: a home that moves later takes no cause away", () ->
                Court.vowed().does(c -> c.cause(0, 0, 1, false)).does(c -> c.home(0, 5)).answers(0, c -> c.publish(0)));
    }

    /** The vow 0 with so many causes that are all REFUSED; the vow 1 is of 2 and 3. */
    private static Court withCauses(int count) {
        Court court = Court.vowed().does(c -> c.vow(2, 3, 3, 0));
        for (int number = 0; number < count; number++) {
            int cause = number;
            court.answers(cause, c -> c.cause(0, 3, 1, false)).judges(cause, 0);
        }
        return court;
    }

    private static void atMost30(Suite suite) {
        suite.test("promise 15: a 30th cause", () -> withCauses(29).answers(29, c -> c.cause(1, 3, 1, false)));
        suite.test("promise 15: a 31st cause would be more than told", () ->
                withCauses(30).illegalState(c -> c.cause(0, 3, 1, false)));
        suite.test("promise 15: a 31st cause would be more than told, also of another vow by leave", () ->
                withCauses(30).illegalState(c -> c.cause(1, 7, 1, true)));
        suite.test("promise 15: with 30 causes an appeal is possible, as it makes none", () ->
                withCauses(30).does(c -> c.appeal(29)).causeIs(29, VowCourt.OPEN, 2));
    }

    private static void doubt(Suite suite) {
        suite.test("promise 16: it returns what the doubt was", () ->
                Court.inCause(8).answers(8, c -> c.doubt(0, 2)).answers(2, c -> c.doubt(0, 127))
                        .answers(127, c -> c.doubt(0, 127)));
        suite.test("promise 16: the doubt is changed", () ->
                Court.inCause(8).does(c -> c.doubt(0, 2)).answers(2, c -> c.causeOf(0, 2)));
        suite.test("promise 16: the doubt of that cause alone", () ->
                Court.inCause(8).does(c -> c.vow(2, 3, 3, 0)).does(c -> c.cause(1, 3, 4, false))
                        .does(c -> c.doubt(1, 2)).answers(8, c -> c.causeOf(0, 2)).answers(2, c -> c.causeOf(1, 2)));
        suite.test("promise 16: proofs are of the new doubt", () ->
                Court.inCause(8).does(c -> c.doubt(0, 2)).answers(3, c -> c.proof(0, 1, 3))
                        .illegalState(c -> c.proof(0, 3, 1)));
        suite.test("promise 16: a refused doubt leaves what it was", () ->
                Court.inCause(8).illegalArgument(c -> c.doubt(0, 0)).illegalArgument(c -> c.doubt(0, 128))
                        .answers(8, c -> c.causeOf(0, 2)));
        suite.test("promise 16: while its vow has ENDED", () ->
                Court.inCause(8).does(c -> c.die(0)).answers(8, c -> c.doubt(0, 2)));
    }

    private static void doubtIsRefused(Suite suite) {
        suite.test("promise 16: it is PUBLISHED in the first instance", () ->
                Court.inCause(8).does(c -> c.publish(0)).illegalState(c -> c.doubt(0, 2)));
        suite.test("promise 16: it is PUBLISHED, also for the same doubt", () ->
                Court.inCause(8).does(c -> c.publish(0)).illegalState(c -> c.doubt(0, 8)));
        suite.test("promise 16: it is REFUSED in the first instance", () ->
                Court.behindOf(1, 0).illegalState(c -> c.doubt(0, 2)));
        suite.test("promise 16: it is OPEN in the second instance", () ->
                Court.behindOf(1, 1).illegalState(c -> c.doubt(0, 2)));
        suite.test("promise 16: it is OPEN in the second instance by appeal", () ->
                Court.behindOf(1, 0).does(c -> c.appeal(0)).illegalState(c -> c.doubt(0, 2)));
        suite.test("promise 16: it is OPEN in the third instance", () ->
                Court.behindOf(1, 1, 0).illegalState(c -> c.doubt(0, 2)));
        suite.test("promise 16: it is PUBLISHED in the second instance", () ->
                Court.behindOf(1, 1).does(c -> c.publish(0)).illegalState(c -> c.doubt(0, 2)));
        suite.test("promise 16: it is NULLIFIED", () -> Court.behindOf(1, 1, 1).illegalState(c -> c.doubt(0, 2)));
        suite.test("promise 16: it is REFUSED for good", () ->
                Court.behindOf(1, 1, 0, 0).illegalState(c -> c.doubt(0, 2)));
    }

    private static void doubtKeepsProofs(Suite suite) {
        suite.test("promise 16: what was proved of other grounds is kept, and weighs again with them", () ->
                Court.inCause(8).does(c -> c.doubt(0, 2)).does(c -> c.doubt(0, 10)).answers(9, c -> c.proof(0, 3, -1)));
        suite.test("promise 16: what was proved of other grounds may not be voted for", () ->
                Court.inCause(8).does(c -> c.doubt(0, 2)).answers(0, c -> c.publish(0))
                        .illegalState(c -> c.vote(0, 0, 8)));
        suite.test("promise 16: what was proved of other grounds may be voted for when they are back", () ->
                Court.inCause(8).does(c -> c.doubt(0, 2)).does(c -> c.doubt(0, 12)).answers(8, c -> c.publish(0))
                        .answers(1, c -> c.vote(0, 0, 8)));
        suite.test("promise 16: what was proved of grounds that stay in the doubt is kept", () ->
                Court.inCause(10).does(c -> c.doubt(0, 2)).answers(2, c -> c.publish(0)));
    }

    private static void hasCause(Suite suite) {
        boolean[] due = {true, true, false, true, false, false, false, false};
        for (int at = 0; at < due.length; at++) {
            int place = at;
            suite.test("promise 28: the place 3 of the vow and the homes 0 and 1 have it: the place " + place, () ->
                    Court.vowed().says(due[place], c -> c.hasCause(0, place)));
        }
        suite.test("promise 28: the home of now has it", () ->
                Court.vowed().does(c -> c.home(1, 7)).says(true, c -> c.hasCause(0, 7)));
        suite.test("promise 28: a former home has it not", () ->
                Court.vowed().does(c -> c.home(1, 7)).says(false, c -> c.hasCause(0, 1)));
        suite.test("promise 28: the home of the first of both, dead, has it not", () ->
                Court.vowed().does(c -> c.die(0)).says(false, c -> c.hasCause(0, 0)).says(true, c -> c.hasCause(0, 1)));
        suite.test("promise 28: the home of the other of both, dead, has it not", () ->
                Court.vowed().does(c -> c.die(1)).says(false, c -> c.hasCause(0, 1)).says(true, c -> c.hasCause(0, 0)));
        suite.test("promise 28: the homes of both dead have it not, the place of the vow has", () ->
                Court.vowed().does(c -> c.die(0)).does(c -> c.die(1)).says(false, c -> c.hasCause(0, 0))
                        .says(false, c -> c.hasCause(0, 1)).says(true, c -> c.hasCause(0, 3)));
        suite.test("promise 28: one home of both, of whom one is dead, has it", () ->
                Court.vowed().does(c -> c.home(0, 1)).does(c -> c.die(0)).says(true, c -> c.hasCause(0, 1)));
        suite.test("promise 28: the home of the dead at the place of the vow has it", () ->
                Court.vowed().does(c -> c.home(0, 3)).does(c -> c.die(0)).says(true, c -> c.hasCause(0, 3)));
        suite.test("promise 28: a home that is set for the dead has it not", () ->
                Court.vowed().does(c -> c.die(0)).does(c -> c.home(0, 6)).says(false, c -> c.hasCause(0, 6)));
        suite.test("promise 28: without regard to what the vow is: NULL", () ->
                Court.vowed().does(c -> c.documents(0)).says(true, c -> c.hasCause(0, 3))
                        .says(true, c -> c.hasCause(0, 0)).says(false, c -> c.hasCause(0, 2)));
        suite.test("promise 28: without regard to what the vow is: DISSOLVED", () ->
                Court.vowed().does(c -> c.grace(0)).says(true, c -> c.hasCause(0, 1)));
        suite.test("promise 28: without regard to a cause that is OPEN, by leave", () ->
                Court.vowed().does(c -> c.cause(0, 6, 1, true)).says(true, c -> c.hasCause(0, 3))
                        .says(false, c -> c.hasCause(0, 6)));
        suite.test("promise 28: each vow has places of its own", () ->
                Court.vowed().does(c -> c.vow(2, 3, 5, 0)).says(false, c -> c.hasCause(0, 5))
                        .says(true, c -> c.hasCause(1, 5)).says(true, c -> c.hasCause(1, 2))
                        .says(false, c -> c.hasCause(1, 0)));
    }
}
