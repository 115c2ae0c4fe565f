/** Promises 9, 10 and 12, and what "Vows" says of the form. */
final class FormTests {
    private FormTests() {
    }

    static void tell(Suite suite) {
        needsForm(suite);
        faculty(suite);
        facultyInPlace(suite);
        error(suite);
        asItIsVowed(suite);
        heal(suite);
        healIsRefused(suite);
        healIsHindered(suite);
    }

    private static void needsForm(Suite suite) {
        for (int row = 0; row < 9; row++) {
            int first = row / 3;
            int second = row % 3;
            boolean needs = first == 0 || second == 0;
            suite.test("the form: of the rites " + first + " and " + second + (needs ? " it needs it" : " it does not"),
                    () -> Court.of(2).does(c -> c.rite(0, first)).does(c -> c.rite(1, second))
                            .does(c -> c.vow(0, 1, 0, 0)).answers(needs ? 1 : 0, c -> c.vowOf(0, 3)));
        }
        suite.test("the form: the rites of others do not count", () ->
                Court.of(3).does(c -> c.rite(0, 1)).does(c -> c.rite(1, 1)).does(c -> c.vow(0, 1, 0, 0))
                        .answers(0, c -> c.vowOf(0, 3)));
    }

    /** Whether a vow of today, of 0 and 1, lacks its form; the next number of a vow is told. */
    private static Court lacks(Court court, int vow, boolean due, int place, int witness) {
        return court.answers(vow, c -> c.vow(0, 1, place, witness)).answers(due ? 1 : 0, c -> c.vowOf(vow, 3));
    }

    private static void faculty(Suite suite) {
        suite.test("promise 9: without a faculty or an error a vow lacks its form", () ->
                lacks(Court.of(2), 0, true, 0, 0));
        suite.test("promise 9: today with them: on the day on which it is given", () ->
                lacks(Court.of(2).does(c -> c.faculty(0, 0, 1)), 0, false, 0, 0));
        suite.test("promise 9: for one day: not on the next day", () ->
                lacks(Court.of(2).does(c -> c.faculty(0, 0, 1)).does(c -> c.pass(1)), 0, true, 0, 0));
        suite.test("promise 9: for no days: not today", () ->
                lacks(Court.of(2).does(c -> c.faculty(0, 0, 0)), 0, true, 0, 0));
        suite.test("promise 9: for 3 days: on the third day", () ->
                lacks(Court.of(2).does(c -> c.pass(7)).does(c -> c.faculty(0, 0, 3)).does(c -> c.pass(2)),
                        0, false, 0, 0));
        suite.test("promise 9: for 3 days: not on the fourth day", () ->
                lacks(Court.of(2).does(c -> c.pass(7)).does(c -> c.faculty(0, 0, 3)).does(c -> c.pass(3)),
                        0, true, 0, 0));
        suite.test("promise 9: for 10000 days: on the last one", () ->
                lacks(Court.of(2).does(c -> c.faculty(0, 0, 10000)).does(c -> c.pass(9999)), 0, false, 0, 0));
        suite.test("promise 9: for 10000 days: not on the day behind them", () ->
                lacks(Court.of(2).does(c -> c.faculty(0, 0, 10000)).does(c -> c.pass(10000)), 0, true, 0, 0));
        suite.test("promise 9: of one witness at one place: each other one lacks it", () -> {
            for (int witness = 0; witness < 6; witness++) {
                Court court = Court.of(2).does(c -> c.faculty(2, 4, 5));
                for (int place = 0; place < 8; place++) {
                    lacks(court, place, witness != 2 || place != 4, place, witness);
                }
            }
        });
        suite.test("promise 9: the witness 5 at the place 7", () ->
                lacks(lacks(Court.of(2).does(c -> c.faculty(5, 7, 1)), 0, false, 7, 5), 1, true, 7, 4));
        suite.test("promise 9: the witness 0 at the place 0", () ->
                lacks(lacks(Court.of(2).does(c -> c.faculty(0, 0, 1)), 0, false, 0, 0), 1, true, 1, 0));
    }

    private static void facultyInPlace(Suite suite) {
        suite.test("promise 9: in place of what was told of both: fewer days", () ->
                lacks(Court.of(2).does(c -> c.faculty(0, 0, 100)).does(c -> c.faculty(0, 0, 2)).does(c -> c.pass(2)),
                        0, true, 0, 0));
        suite.test("promise 9: in place of what was told of both: more days", () ->
                lacks(Court.of(2).does(c -> c.faculty(0, 0, 2)).does(c -> c.faculty(0, 0, 100)).does(c -> c.pass(99)),
                        0, false, 0, 0));
        suite.test("promise 9: in place of what was told of both: no days end it at once", () ->
                lacks(Court.of(2).does(c -> c.faculty(0, 0, 100)).does(c -> c.pass(1)).does(c -> c.faculty(0, 0, 0)),
                        0, true, 0, 0));
        suite.test("promise 9: in place of what was told of both: counted from that day", () ->
                lacks(Court.of(2).does(c -> c.faculty(0, 0, 5)).does(c -> c.pass(4)).does(c -> c.faculty(0, 0, 5))
                        .does(c -> c.pass(4)), 0, false, 0, 0));
        suite.test("promise 9: the days do not add up", () ->
                lacks(Court.of(2).does(c -> c.faculty(0, 0, 5)).does(c -> c.faculty(0, 0, 5)).does(c -> c.pass(5)),
                        0, true, 0, 0));
        suite.test("promise 9: anew when it has run out", () ->
                lacks(Court.of(2).does(c -> c.faculty(0, 0, 1)).does(c -> c.pass(50)).does(c -> c.faculty(0, 0, 1)),
                        0, false, 0, 0));
        suite.test("promise 9: of both: another witness keeps what was told", () ->
                lacks(Court.of(2).does(c -> c.faculty(0, 0, 5)).does(c -> c.faculty(1, 0, 0)), 0, false, 0, 0));
        suite.test("promise 9: of both: another place keeps what was told", () ->
                lacks(Court.of(2).does(c -> c.faculty(0, 0, 5)).does(c -> c.faculty(0, 1, 0)), 0, false, 0, 0));
        suite.test("promise 9: a refused faculty leaves what was told", () ->
                lacks(Court.of(2).does(c -> c.faculty(0, 0, 5)).illegalArgument(c -> c.faculty(0, 0, 10001))
                        .illegalArgument(c -> c.faculty(0, 0, -1)).does(c -> c.pass(4)), 0, false, 0, 0));
    }

    private static void error(Suite suite) {
        suite.test("promise 10: the first call tells of an error", () -> Court.of(0).says(true, c -> c.error(0)));
        suite.test("promise 10: the second one tells of its end", () ->
                Court.of(0).does(c -> c.error(0)).says(false, c -> c.error(0)));
        suite.test("promise 10: the third one tells of an error again", () ->
                Court.of(0).does(c -> c.error(0)).does(c -> c.error(0)).says(true, c -> c.error(0)));
        suite.test("promise 10: with an error each witness gives the form", () -> {
            Court court = Court.of(2).does(c -> c.error(6));
            for (int witness = 0; witness < 6; witness++) {
                lacks(court, witness, false, 6, witness);
            }
        });
        suite.test("promise 10: behind its end the form is lacked", () ->
                lacks(Court.of(2).does(c -> c.error(6)).does(c -> c.error(6)), 0, true, 6, 0));
        suite.test("promise 10: an error goes on as days pass", () ->
                lacks(Court.of(2).does(c -> c.error(6)).does(c -> c.pass(10000)), 0, false, 6, 0));
        suite.test("promise 10: an error at one place is none at another", () -> {
            Court court = Court.of(2).does(c -> c.error(3));
            for (int place = 0; place < 8; place++) {
                lacks(court, place, place != 3, place, 0);
            }
        });
        suite.test("promise 10: errors at two places, and the end of one", () ->
                lacks(lacks(Court.of(2).does(c -> c.error(0)).does(c -> c.error(7)).says(false, c -> c.error(0)),
                        0, false, 7, 0), 1, true, 0, 0));
        suite.test("promise 10: with the end of an error a faculty still gives the form", () ->
                lacks(Court.of(2).does(c -> c.faculty(1, 0, 5)).does(c -> c.error(0)).does(c -> c.error(0)),
                        0, false, 0, 1));
    }

    private static void asItIsVowed(Suite suite) {
        suite.test("the form as it is vowed: a faculty later on that day gives none", () ->
                Court.vowed().does(c -> c.faculty(0, 3, 10)).answers(1, c -> c.vowOf(0, 3)));
        suite.test("the form as it is vowed: an error later on that day gives none", () ->
                Court.vowed().does(c -> c.error(3)).answers(1, c -> c.vowOf(0, 3)));
        suite.test("the form as it is vowed: the end of an error later on that day takes none", () ->
                Court.of(2).does(c -> c.error(3)).does(c -> c.vow(0, 1, 3, 0)).does(c -> c.error(3))
                        .answers(0, c -> c.vowOf(0, 3)));
        suite.test("the form as it is vowed: the end of a faculty later on that day takes none", () ->
                Court.of(2).does(c -> c.faculty(0, 3, 1)).does(c -> c.vow(0, 1, 3, 0)).does(c -> c.faculty(0, 3, 0))
                        .does(c -> c.pass(1)).answers(0, c -> c.vowOf(0, 3)));
    }

    private static void heal(Suite suite) {
        suite.test("promise 12: a vow that is healed has the form then", () ->
                Court.vowed().answers(1, c -> c.vowOf(0, 3)).does(c -> c.heal(0)).answers(0, c -> c.vowOf(0, 3)));
        suite.test("promise 12: a vow that is healed STANDS", () ->
                Court.vowed().does(c -> c.heal(0)).vowIs(0, VowCourt.STANDS, -1).answers(0, c -> c.hindered(0)));
        suite.test("promise 12: a vow may be healed later", () ->
                Court.vowed().does(c -> c.pass(10000)).does(c -> c.heal(0)).answers(0, c -> c.vowOf(0, 3))
                        .answers(0, c -> c.vowOf(0, 1)));
        suite.test("promise 12: a vow that is healed is not NULL by documents", () ->
                Court.vowed().does(c -> c.heal(0)).illegalState(c -> c.documents(0)));
        suite.test("promise 12: another vow is not healed with it", () ->
                Court.vowed().does(c -> c.vow(2, 3, 3, 0)).does(c -> c.heal(1)).answers(1, c -> c.vowOf(0, 3))
                        .answers(0, c -> c.vowOf(1, 3)));
        suite.test("promise 12: the bans of both do not count", () ->
                Court.vowed().does(c -> c.ban(0)).does(c -> c.ban(1)).does(c -> c.heal(0))
                        .answers(0, c -> c.vowOf(0, 3)));
        suite.test("promise 12: the rites of now do not count", () ->
                Court.vowed().does(c -> c.rite(0, 1)).does(c -> c.rite(1, 1)).does(c -> c.heal(0))
                        .answers(0, c -> c.vowOf(0, 3)));
        suite.test("promise 12: a vow in court may be healed", () ->
                Court.inCause(2).does(c -> c.heal(0)).answers(0, c -> c.vowOf(0, 3)).causeIs(0, VowCourt.OPEN));
        suite.test("promise 12: a vow of the day 0 stays of that day", () ->
                Court.vowed().does(c -> c.pass(5)).does(c -> c.heal(0)).answers(0, c -> c.bound(0, 0)));
    }

    private static void healIsRefused(Suite suite) {
        suite.test("promise 12: it has the form by a faculty", () ->
                Court.of(2).does(c -> c.faculty(0, 0, 1)).does(c -> c.vow(0, 1, 0, 0)).illegalState(c -> c.heal(0)));
        suite.test("promise 12: it has the form by an error", () ->
                Court.of(2).does(c -> c.error(0)).does(c -> c.vow(0, 1, 0, 0)).illegalState(c -> c.heal(0)));
        suite.test("promise 12: it needs no form", () ->
                Court.of(2).does(c -> c.rite(0, 1)).does(c -> c.rite(1, 1)).does(c -> c.vow(0, 1, 0, 0))
                        .illegalState(c -> c.heal(0)));
        suite.test("promise 12: it was healed", () ->
                Court.vowed().does(c -> c.heal(0)).illegalState(c -> c.heal(0)));
        suite.test("promise 12: the first of both is dead", () ->
                Court.vowed().does(c -> c.die(0)).illegalState(c -> c.heal(0)));
        suite.test("promise 12: the other of both is dead", () ->
                Court.vowed().does(c -> c.die(1)).illegalState(c -> c.heal(0)));
        suite.test("promise 12: it is DISSOLVED", () ->
                Court.vowed().does(c -> c.grace(0)).illegalState(c -> c.heal(0)));
        suite.test("promise 12: it is NULL by documents", () ->
                Court.vowed().does(c -> c.documents(0)).illegalState(c -> c.heal(0)));
        suite.test("promise 12: it is NULL by sentences", () ->
                Court.behind(2, 2).vowIs(0, VowCourt.NULL, 0).illegalState(c -> c.heal(0)));
    }

    private static void healIsHindered(Suite suite) {
        suite.test("promise 12: AGE hinders it", () ->
                Court.aged(5000, 9000).does(c -> c.vow(0, 1, 0, 0)).illegalState(c -> c.heal(0)));
        suite.test("promise 12: AGE hinders it, also when both are grown now", () ->
                Court.aged(5000, 9000).does(c -> c.vow(0, 1, 0, 0)).does(c -> c.pass(5000))
                        .illegalState(c -> c.heal(0)));
        suite.test("promise 12: KIN hinders it", () ->
                DispenseTests.cousins().does(c -> c.vow(3, 4, 0, 0)).illegalState(c -> c.heal(0)));
        suite.test("promise 12: BOND hinders it", () ->
                Court.vowed().does(c -> c.vow(0, 2, 0, 0)).illegalState(c -> c.heal(1)));
        suite.test("promise 12: BOND hinders it no more, as is known now", () ->
                Court.vowed().does(c -> c.vow(0, 2, 0, 0)).does(c -> c.documents(0)).does(c -> c.heal(1))
                        .answers(0, c -> c.vowOf(1, 3)));
        suite.test("promise 12: ORDER hinders it", () ->
                Court.of(2).does(c -> c.order(1)).does(c -> c.vow(0, 1, 0, 0)).illegalState(c -> c.heal(0)));
        suite.test("promise 12: an order taken later hinders it not", () ->
                Court.vowed().does(c -> c.order(1)).does(c -> c.heal(0)).answers(0, c -> c.vowOf(0, 3)));
        suite.test("promise 12: what was dispensed ahead of it hinders it not", () ->
                Court.of(2).does(c -> c.order(1)).does(c -> c.dispense(0, 1, VowCourt.ORDER))
                        .does(c -> c.vow(0, 1, 0, 0)).does(c -> c.heal(0)).answers(0, c -> c.vowOf(0, 3)));
        suite.test("promise 12: what was dispensed behind it hinders it still", () ->
                Court.of(2).does(c -> c.order(1)).does(c -> c.vow(0, 1, 0, 0))
                        .does(c -> c.dispense(0, 1, VowCourt.ORDER)).illegalState(c -> c.heal(0)));
    }
}
