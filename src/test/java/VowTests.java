/** Promises 11, 13, 14 and 26, and what "Vows" says of what a vow is. */
final class VowTests {
    private VowTests() {
    }

    static void tell(Suite suite) {
        vow(suite);
        vowIsRefused(suite);
        atMost30(suite);
        grace(suite);
        graceIsRefused(suite);
        documents(suite);
        documentsReturn(suite);
        documentsAreRefused(suite);
        nullForGood(suite);
        vowOf(suite);
    }

    private static void vow(Suite suite) {
        suite.test("promise 11: vows are numbered from 0, one behind the other", () -> {
            Court court = Court.of(2);
            for (int number = 0; number < 30; number++) {
                court.answers(number, c -> c.vow(0, 1, 0, 0));
            }
        });
        suite.test("promise 11: a vow STANDS at first", () -> Court.vowed().vowIs(0, VowCourt.STANDS, -1));
        suite.test("promise 11: a vow is of today", () ->
                Court.of(2).does(c -> c.pass(4)).does(c -> c.vow(0, 1, 0, 0)).answers(4, c -> c.vowOf(0, 1)));
        suite.test("promise 11: a hindered vow STANDS all the same", () ->
                Court.aged(0).does(c -> c.person(0, 0, -1, 0)).does(c -> c.order(0)).does(c -> c.vow(0, 1, 0, 0))
                        .vowIs(0, VowCourt.STANDS, -1));
        suite.test("promise 11: the bound may vow again, and both vows STAND", () ->
                Court.vowed().answers(1, c -> c.vow(0, 2, 0, 0)).vowIs(0, VowCourt.STANDS, -1)
                        .vowIs(1, VowCourt.STANDS, -1));
        suite.test("promise 11: the last persons there are may vow", () ->
                Court.of(24).answers(0, c -> c.vow(23, 22, 0, 0)).reads("bound by 0 to 22", 23, 0));
        suite.test("promise 11: a vow binds the first of both to the other one", () ->
                Court.vowed().reads("bound by 0 to 1", 0, 0));
        suite.test("promise 11: a vow binds the other of both to the first one", () ->
                Court.vowed().reads("bound by 0 to 0", 1, 0));
    }

    private static void vowIsRefused(Suite suite) {
        suite.test("promise 11: both are the same", () -> Court.of(3).illegalArgument(c -> c.vow(2, 2, 0, 0)));
        suite.test("promise 11: both are the same person 0", () -> Court.of(3).illegalArgument(c -> c.vow(0, 0, 0, 0)));
        suite.test("promise 11: both are dead", () ->
                Court.of(2).does(c -> c.die(0)).does(c -> c.die(1)).illegalState(c -> c.vow(0, 1, 0, 0)));
        suite.test("promise 11: both are banned", () ->
                Court.of(2).does(c -> c.ban(0)).does(c -> c.ban(1)).illegalState(c -> c.vow(0, 1, 0, 0)));
        suite.test("promise 11: one is dead, the other one banned", () ->
                Court.of(2).does(c -> c.die(0)).does(c -> c.ban(1)).illegalState(c -> c.vow(1, 0, 0, 0)));
        suite.test("promise 11: a refused vow takes no number", () ->
                Court.of(4).does(c -> c.ban(3)).illegalState(c -> c.vow(0, 3, 0, 0))
                        .illegalArgument(c -> c.vow(0, 1, 8, 0)).answers(0, c -> c.vow(0, 1, 0, 0)));
    }

    private static Court with30Vows() {
        Court court = Court.of(4);
        for (int vow = 0; vow < 30; vow++) {
            court.does(c -> c.vow(0, 1, 0, 0));
        }
        return court;
    }

    private static void atMost30(Suite suite) {
        suite.test("promise 11: a 31st vow would be more than told", () ->
                with30Vows().illegalState(c -> c.vow(0, 1, 0, 0)));
        suite.test("promise 11: a 31st vow would be more than told, also of others", () ->
                with30Vows().illegalState(c -> c.vow(2, 3, 0, 0)));
        suite.test("promise 11: vows that are NULL or DISSOLVED are among the 30", () ->
                with30Vows().does(c -> c.documents(0)).does(c -> c.grace(1)).does(c -> c.pass(1))
                        .illegalState(c -> c.vow(0, 1, 0, 0)));
    }

    private static void grace(Suite suite) {
        suite.test("promise 13: a vow that STANDS is DISSOLVED today", () ->
                Court.vowed().does(c -> c.pass(9)).does(c -> c.grace(0)).vowIs(0, VowCourt.DISSOLVED, 9));
        suite.test("promise 13: on the day of the vow too", () ->
                Court.vowed().does(c -> c.grace(0)).vowIs(0, VowCourt.DISSOLVED, 0));
        suite.test("promise 13: a hindered vow is DISSOLVED too", () ->
                Court.of(2).does(c -> c.order(0)).does(c -> c.vow(0, 1, 0, 0)).does(c -> c.grace(0))
                        .vowIs(0, VowCourt.DISSOLVED, 0));
        suite.test("promise 13: other vows stand", () ->
                Court.vowed().does(c -> c.vow(0, 2, 0, 0)).does(c -> c.grace(0)).vowIs(1, VowCourt.STANDS, -1));
        suite.test("promise 13: with a cause that is REFUSED", () ->
                Court.behind(0).does(c -> c.grace(0)).vowIs(0, VowCourt.DISSOLVED, 0));
        suite.test("promise 13: with a cause that is REFUSED for good", () ->
                Court.behind(0, 0).does(c -> c.grace(0)).vowIs(0, VowCourt.DISSOLVED, 0));
        suite.test("promise 13: with a cause of another vow that is OPEN", () ->
                Court.inCause(1).does(c -> c.vow(2, 3, 0, 0)).does(c -> c.grace(1))
                        .vowIs(1, VowCourt.DISSOLVED, 0));
        suite.test("promise 13: a person free by grace may vow on the same day", () ->
                Court.vowed().does(c -> c.grace(0)).answers(1, c -> c.vow(0, 2, 0, 0)).answers(0, c -> c.hindered(1)));
        suite.test("promise 13: it does not count who is banned", () ->
                Court.vowed().does(c -> c.ban(0)).does(c -> c.grace(0)).vowIs(0, VowCourt.DISSOLVED, 0));
    }

    private static void graceIsRefused(Suite suite) {
        suite.test("promise 13: it is DISSOLVED", () ->
                Court.vowed().does(c -> c.grace(0)).does(c -> c.pass(1)).illegalState(c -> c.grace(0)));
        suite.test("promise 13: it has ENDED", () -> Court.vowed().does(c -> c.die(0)).illegalState(c -> c.grace(0)));
        suite.test("promise 13: it has ENDED, and a refused grace leaves the day of its end", () ->
                Court.vowed().does(c -> c.die(0)).does(c -> c.pass(4)).illegalState(c -> c.grace(0))
                        .vowIs(0, VowCourt.ENDED, 0));
        suite.test("promise 13: it is NULL by documents", () ->
                Court.vowed().does(c -> c.documents(0)).illegalState(c -> c.grace(0)));
        suite.test("promise 13: it is NULL by sentences", () -> Court.behind(2, 2).illegalState(c -> c.grace(0)));
        suite.test("promise 13: a cause of it is OPEN", () -> Court.inCause(1).illegalState(c -> c.grace(0)));
        suite.test("promise 13: a cause of it is PUBLISHED", () ->
                Court.inCause(1).does(c -> c.publish(0)).illegalState(c -> c.grace(0)));
        suite.test("promise 13: a cause of it is OPEN in the second instance", () ->
                Court.behind(1).illegalState(c -> c.grace(0)));
        suite.test("promise 13: a cause of it is OPEN in the second instance, by appeal", () ->
                Court.behind(0).does(c -> c.appeal(0)).illegalState(c -> c.grace(0)));
        suite.test("promise 13: a cause of it is OPEN in the third instance", () ->
                Court.behind(1, 0).illegalState(c -> c.grace(0)));
        suite.test("promise 13: its first cause is over, its second one is OPEN", () ->
                Court.behind(0).does(c -> c.cause(0, 3, 1, false)).illegalState(c -> c.grace(0)));
    }

    private static void documents(Suite suite) {
        suite.test("promise 14: a vow that STANDS, and that something hinders, is NULL", () ->
                Court.of(2).does(c -> c.error(0)).does(c -> c.order(0)).does(c -> c.vow(0, 1, 0, 0))
                        .answers(VowCourt.ORDER, c -> c.documents(0)).vowIs(0, VowCourt.NULL, 0));
        suite.test("promise 14: a vow that STANDS, and that lacks its form, is NULL", () ->
                Court.vowed().answers(16, c -> c.documents(0)).vowIs(0, VowCourt.NULL, 0));
        suite.test("promise 14: a vow that has ENDED, and that something hinders, is NULL", () ->
                Court.of(2).does(c -> c.error(0)).does(c -> c.order(0)).does(c -> c.vow(0, 1, 0, 0))
                        .does(c -> c.die(1)).answers(VowCourt.ORDER, c -> c.documents(0)).vowIs(0, VowCourt.NULL, 0));
        suite.test("promise 14: a vow that has ENDED, and that lacks its form, is NULL", () ->
                Court.vowed().does(c -> c.die(1)).answers(16, c -> c.documents(0)).vowIs(0, VowCourt.NULL, 0));
        suite.test("promise 14: it is found NULL today", () ->
                Court.vowed().does(c -> c.pass(6)).does(c -> c.documents(0)).vowIs(0, VowCourt.NULL, 6)
                        .answers(0, c -> c.vowOf(0, 1)));
        suite.test("promise 14: one that has ENDED is found NULL today, not on the day of its end", () ->
                Court.vowed().does(c -> c.pass(2)).does(c -> c.die(0)).does(c -> c.pass(6)).does(c -> c.documents(0))
                        .vowIs(0, VowCourt.NULL, 8));
        suite.test("promise 14: with a cause that is REFUSED", () ->
                Court.behind(0).answers(16, c -> c.documents(0)).vowIs(0, VowCourt.NULL, 0));
        suite.test("promise 14: with a cause of another vow that is OPEN", () ->
                Court.inCause(1).does(c -> c.vow(2, 3, 0, 0)).answers(16, c -> c.documents(1)));
        suite.test("promise 14: other vows stand", () ->
                Court.vowed().does(c -> c.vow(0, 2, 0, 0)).does(c -> c.documents(0)).vowIs(1, VowCourt.STANDS, -1));
    }

    private static void documentsReturn(Suite suite) {
        suite.test("promise 14: what hinders it, and 16, together: 31", () ->
                Court.aged(100).does(c -> c.person(100, 0, -1, 0)).does(c -> c.order(0)).does(c -> c.vow(0, 1, 0, 0))
                        .does(c -> c.vow(0, 1, 0, 0)).answers(31, c -> c.documents(1)));
        suite.test("promise 14: AGE alone, with the form", () ->
                Court.aged(100, 9000).does(c -> c.error(0)).does(c -> c.vow(0, 1, 0, 0))
                        .answers(VowCourt.AGE, c -> c.documents(0)));
        suite.test("promise 14: KIN alone, with the form", () ->
                DispenseTests.cousins().does(c -> c.error(0)).does(c -> c.vow(3, 4, 0, 0))
                        .answers(VowCourt.KIN, c -> c.documents(0)));
        suite.test("promise 14: BOND alone, without need of the form", () ->
                Court.vowed().does(c -> c.rite(2, 1)).does(c -> c.rite(0, 2)).does(c -> c.vow(0, 2, 0, 0))
                        .answers(VowCourt.BOND, c -> c.documents(1)));
        suite.test("promise 14: BOND and 16", () ->
                Court.vowed().does(c -> c.vow(0, 2, 0, 0)).answers(VowCourt.BOND + 16, c -> c.documents(1)));
        suite.test("promise 14: as it was ahead of that: what hinders and lacks is told behind it too", () ->
                Court.of(2).does(c -> c.order(0)).does(c -> c.vow(0, 1, 0, 0)).answers(24, c -> c.documents(0))
                        .answers(VowCourt.ORDER, c -> c.hindered(0)).answers(1, c -> c.vowOf(0, 3)));
    }

    private static void documentsAreRefused(Suite suite) {
        suite.test("promise 14: nothing hinders it, and it has its form", () ->
                Court.of(2).does(c -> c.error(0)).does(c -> c.vow(0, 1, 0, 0)).illegalState(c -> c.documents(0)));
        suite.test("promise 14: nothing hinders it, and it needs no form", () ->
                Court.of(2).does(c -> c.rite(0, 1)).does(c -> c.rite(1, 1)).does(c -> c.vow(0, 1, 0, 0))
                        .illegalState(c -> c.documents(0)));
        suite.test("promise 14: the bond that hindered it is NULL, as is known now", () ->
                Court.vowed().does(c -> c.error(0)).does(c -> c.vow(0, 2, 0, 0)).does(c -> c.documents(0))
                        .illegalState(c -> c.documents(1)));
        suite.test("promise 14: it is DISSOLVED", () ->
                Court.vowed().does(c -> c.grace(0)).illegalState(c -> c.documents(0)));
        suite.test("promise 14: it is NULL", () ->
                Court.vowed().does(c -> c.documents(0)).does(c -> c.pass(1)).illegalState(c -> c.documents(0)));
        suite.test("promise 14: it is NULL by sentences", () ->
                Court.behind(2, 2).illegalState(c -> c.documents(0)));
        suite.test("promise 14: a cause of it is OPEN", () -> Court.inCause(1).illegalState(c -> c.documents(0)));
        suite.test("promise 14: a cause of it is PUBLISHED", () ->
                Court.inCause(1).does(c -> c.publish(0)).illegalState(c -> c.documents(0)));
        suite.test("promise 14: a cause of it is OPEN in the second instance", () ->
                Court.behind(1).illegalState(c -> c.documents(0)));
        suite.test("promise 14: a cause of it is OPEN in the second instance, by appeal", () ->
                Court.behind(0).does(c -> c.appeal(0)).illegalState(c -> c.documents(0)));
        suite.test("promise 14: a cause of it is OPEN in the third instance", () ->
                Court.behind(1, 0).illegalState(c -> c.documents(0)));
        suite.test("promise 14: it has ENDED, and a cause of it is OPEN", () ->
                Court.inCause(1).does(c -> c.die(0)).illegalState(c -> c.documents(0)));
    }

    private static void nullForGood(Suite suite) {
        suite.test("NULL for good: no cause by leave", () ->
                Court.vowed().does(c -> c.documents(0)).illegalState(c -> c.cause(0, 3, 1, true)));
        suite.test("NULL for good: the death of both does not end it", () ->
                Court.vowed().does(c -> c.documents(0)).does(c -> c.pass(1)).answers(0, c -> c.die(0))
                        .answers(0, c -> c.die(1)).vowIs(0, VowCourt.NULL, 0));
        suite.test("NULL for good: days that pass change nothing", () ->
                Court.vowed().does(c -> c.documents(0)).does(c -> c.pass(10000)).vowIs(0, VowCourt.NULL, 0));
        suite.test("DISSOLVED: the death of one does not end it", () ->
                Court.vowed().does(c -> c.pass(1)).does(c -> c.grace(0)).does(c -> c.pass(1)).does(c -> c.die(0))
                        .vowIs(0, VowCourt.DISSOLVED, 1));
    }

    private static void vowOf(Suite suite) {
        suite.test("promise 26: 0 is STANDS at first", () -> Court.vowed().answers(0, c -> c.vowOf(0, 0)));
        suite.test("promise 26: 0 is NULL", () ->
                Court.vowed().does(c -> c.documents(0)).answers(1, c -> c.vowOf(0, 0)));
        suite.test("promise 26: 0 is DISSOLVED", () ->
                Court.vowed().does(c -> c.grace(0)).answers(2, c -> c.vowOf(0, 0)));
        suite.test("promise 26: 0 is ENDED", () -> Court.vowed().does(c -> c.die(0)).answers(3, c -> c.vowOf(0, 0)));
        suite.test("promise 26: 1 is the day of the vow, as days pass", () ->
                Court.of(2).does(c -> c.pass(7)).does(c -> c.vow(0, 1, 0, 0)).does(c -> c.pass(3))
                        .answers(7, c -> c.vowOf(0, 1)));
        suite.test("promise 26: 2 is -1 if it STANDS", () ->
                Court.vowed().does(c -> c.pass(3)).answers(-1, c -> c.vowOf(0, 2)));
        suite.test("promise 26: 2 is the day on which it was found NULL by documents", () ->
                Court.vowed().does(c -> c.pass(3)).does(c -> c.documents(0)).does(c -> c.pass(1))
                        .answers(3, c -> c.vowOf(0, 2)));
        suite.test("promise 26: 2 is the day on which it was found NULL by a sentence", () ->
                Court.inCause(2).does(c -> c.pass(3)).judges(0, 2).does(c -> c.pass(4)).judges(0, 2)
                        .does(c -> c.pass(5)).answers(7, c -> c.vowOf(0, 2)));
        suite.test("promise 26: 2 is the day on which it was DISSOLVED", () ->
                Court.vowed().does(c -> c.pass(3)).does(c -> c.grace(0)).does(c -> c.pass(1))
                        .answers(3, c -> c.vowOf(0, 2)));
        suite.test("promise 26: 2 is the day on which it ENDED", () ->
                Court.vowed().does(c -> c.pass(3)).does(c -> c.die(1)).does(c -> c.pass(1))
                        .answers(3, c -> c.vowOf(0, 2)));
        suite.test("promise 26: 3 is 1 if it lacks the form that it needs", () ->
                Court.vowed().answers(1, c -> c.vowOf(0, 3)));
        suite.test("promise 26: 3 is 0 if it has the form", () ->
                Court.of(2).does(c -> c.error(0)).does(c -> c.vow(0, 1, 0, 0)).answers(0, c -> c.vowOf(0, 3)));
        suite.test("promise 26: 3 is 0 if it needs no form", () ->
                Court.of(2).does(c -> c.rite(0, 2)).does(c -> c.rite(1, 2)).does(c -> c.vow(0, 1, 0, 0))
                        .answers(0, c -> c.vowOf(0, 3)));
        for (int at = 0; at < 8; at++) {
            int place = at;
            suite.test("promise 26: 4 is its place " + place, () ->
                    Court.of(2).does(c -> c.vow(0, 1, place, 5)).answers(place, c -> c.vowOf(0, 4)));
        }
    }
}
