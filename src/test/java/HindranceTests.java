import java.util.Arrays;
import java.util.function.Supplier;

/** What hinders a vow, and promise 25. */
final class HindranceTests {
    private static final int FULL = 16 * 360;

    private HindranceTests() {
    }

    static void tell(Suite suite) {
        age(suite);
        kinInLine(suite);
        kinInDegrees(suite);
        bond(suite);
        bondEnds(suite);
        bondAsIsKnownNow(suite);
        order(suite);
        asItIsVowed(suite);
        together(suite);
    }

    private static void hinders(Suite suite, String what, int due, Supplier<Court> made, int one, int other) {
        suite.test(what, () -> made.get().does(c -> c.vow(one, other, 0, 0)).answers(due, c -> c.hindered(0)));
    }

    private static void age(Suite suite) {
        hinders(suite, "AGE: 16 years are 5760 days, for both", 0, () -> Court.aged(FULL, FULL), 0, 1);
        hinders(suite, "AGE: the first of both is a day less", VowCourt.AGE, () -> Court.aged(FULL - 1, FULL), 0, 1);
        hinders(suite, "AGE: the other of both is a day less", VowCourt.AGE, () -> Court.aged(FULL - 1, FULL), 1, 0);
        hinders(suite, "AGE: both are a day less", VowCourt.AGE, () -> Court.aged(FULL - 1, FULL - 1), 0, 1);
        hinders(suite, "AGE: born today", VowCourt.AGE, () -> Court.aged(0, 36000), 1, 0);
        hinders(suite, "AGE: one is old, the other one too young", VowCourt.AGE,
                () -> Court.aged(36000, FULL - 1), 0, 1);
        suite.test("AGE: with the day on which one is 16 it hinders no new vow", () ->
                Court.aged(FULL - 2, FULL - 1).does(c -> c.pass(1)).does(c -> c.vow(0, 1, 0, 0))
                        .answers(VowCourt.AGE, c -> c.hindered(0)).does(c -> c.documents(0)).does(c -> c.pass(1))
                        .does(c -> c.vow(0, 1, 0, 0)).answers(0, c -> c.hindered(1)));
        suite.test("AGE: it is the age on the day of the vow, whatever comes later", () ->
                Court.aged(FULL - 1, FULL).does(c -> c.vow(0, 1, 0, 0)).does(c -> c.pass(10000))
                        .answers(VowCourt.AGE, c -> c.hindered(0)));
    }

    private static void kinInLine(Suite suite) {
        hinders(suite, "KIN: in line, degree 1", VowCourt.KIN, () -> Court.family(-1, -1, 0, -1), 0, 1);
        hinders(suite, "KIN: in line, degree 1, the other way round", VowCourt.KIN,
                () -> Court.family(-1, -1, 0, -1), 1, 0);
        for (int steps = 4; steps <= 23; steps++) {
            hinders(suite, "KIN: in line, degree " + steps, VowCourt.KIN,
                    () -> Court.family(KinTests.lineOf24(false)), steps, 0);
        }
        hinders(suite, "KIN: a line of 6 steps, but a way of 5: not in line", 0, () -> lineAndWay(6, 4), 1, 7);
        hinders(suite, "KIN: a line of 5 steps, and a way of 5: in line", VowCourt.KIN, () -> lineAndWay(5, 4), 1, 6);
        hinders(suite, "KIN: a line of 5 steps, but a way of 4: in that degree", VowCourt.KIN,
                () -> lineAndWay(5, 3), 1, 6);
    }

    /**
     * 0 is the father of 1, from whom a line goes down by so many steps to the person with one number more; that one
     * has 0 by a second line too, of so many others.
     */
    static Court lineAndWay(int steps, int others) {
        int last = steps + 1;
        int[] parents = new int[2 * (last + 1)];
        Arrays.fill(parents, -1);
        for (int number = 1; number <= last; number++) {
            parents[2 * number] = number - 1;
        }
        // A mother as far down as the second line needs it leads past 1.
        parents[2 * (last - others + 1) + 1] = 0;
        return Court.family(parents);
    }

    private static void kinInDegrees(Suite suite) {
        hinders(suite, "KIN: degree 2", VowCourt.KIN, () -> DispenseTests.cousins(), 1, 2);
        hinders(suite, "KIN: degree 3", VowCourt.KIN, () -> DispenseTests.cousins(), 1, 4);
        hinders(suite, "KIN: degree 4", VowCourt.KIN, () -> DispenseTests.cousins(), 3, 4);
        hinders(suite, "KIN: degree 4, the other way round", VowCourt.KIN, () -> DispenseTests.cousins(), 4, 3);
        hinders(suite, "KIN: degree 5 hinders not", 0, () -> DispenseTests.cousins(), 5, 4);
        hinders(suite, "KIN: degree 6 hinders not", 0, () -> DispenseTests.cousins(), 5, 6);
        hinders(suite, "KIN: who is not kin is not hindered", 0, () -> Court.of(2), 0, 1);
        hinders(suite, "KIN: parents of one child are not hindered", 0, () -> Court.family(-1, -1, -1, -1, 0, 1), 0, 1);
    }

    private static void bond(Suite suite) {
        suite.test("BOND: the first of both was bound", () ->
                Court.vowed().does(c -> c.vow(0, 2, 0, 0)).answers(VowCourt.BOND, c -> c.hindered(1)));
        suite.test("BOND: the other of both was bound", () ->
                Court.vowed().does(c -> c.vow(2, 0, 0, 0)).answers(VowCourt.BOND, c -> c.hindered(1)));
        suite.test("BOND: both were bound", () ->
                Court.vowed().does(c -> c.vow(2, 3, 0, 0)).does(c -> c.vow(0, 2, 0, 0))
                        .answers(VowCourt.BOND, c -> c.hindered(2)));
        suite.test("BOND: they were bound to one another", () ->
                Court.vowed().does(c -> c.vow(1, 0, 0, 0)).answers(VowCourt.BOND, c -> c.hindered(1)));
        suite.test("BOND: neither was bound", () ->
                Court.vowed().does(c -> c.vow(2, 3, 0, 0)).answers(0, c -> c.hindered(1)));
        suite.test("BOND: by a vow of long ago", () ->
                Court.vowed().does(c -> c.pass(10000)).does(c -> c.vow(0, 2, 0, 0))
                        .answers(VowCourt.BOND, c -> c.hindered(1)));
        suite.test("BOND: a vow with a higher number hinders not, also of the same day", () ->
                Court.vowed().does(c -> c.vow(0, 1, 0, 0)).answers(0, c -> c.hindered(0)));
        suite.test("BOND: a vow that is hindered itself binds all the same", () ->
                Court.of(3).does(c -> c.order(0)).does(c -> c.vow(0, 1, 0, 0)).does(c -> c.vow(1, 2, 0, 0))
                        .answers(VowCourt.BOND, c -> c.hindered(1)));
        suite.test("BOND: a vow that lacks its form binds all the same", () ->
                Court.vowed().answers(1, c -> c.vowOf(0, 3)).does(c -> c.vow(0, 2, 0, 0))
                        .answers(VowCourt.BOND, c -> c.hindered(1)));
        suite.test("BOND: the vow 29 is hindered by the vow 28 alone", () -> {
            Court court = Court.of(4);
            for (int vow = 0; vow < 28; vow++) {
                court.does(c -> c.vow(0, 1, 0, 0));
            }
            court.does(c -> c.vow(2, 3, 0, 0)).does(c -> c.vow(3, 2, 0, 0)).answers(VowCourt.BOND, c -> c.hindered(29))
                    .does(c -> c.documents(28)).answers(0, c -> c.hindered(29));
        });
    }

    private static void bondEnds(Suite suite) {
        suite.test("BOND: DISSOLVED a day ahead of it hinders not", () ->
                Court.vowed().does(c -> c.grace(0)).does(c -> c.pass(1)).does(c -> c.vow(0, 2, 0, 0))
                        .answers(0, c -> c.hindered(1)));
        suite.test("BOND: DISSOLVED on the same day ahead of it hinders not", () ->
                Court.vowed().does(c -> c.pass(1)).does(c -> c.grace(0)).does(c -> c.vow(0, 2, 0, 0))
                        .answers(0, c -> c.hindered(1)));
        suite.test("BOND: DISSOLVED on the same day behind it hinders not, as is known now", () ->
                Court.vowed().does(c -> c.pass(1)).does(c -> c.vow(0, 2, 0, 0))
                        .answers(VowCourt.BOND, c -> c.hindered(1)).does(c -> c.grace(0))
                        .answers(0, c -> c.hindered(1)));
        suite.test("BOND: DISSOLVED a day behind it hinders still", () ->
                Court.vowed().does(c -> c.vow(0, 2, 0, 0)).does(c -> c.pass(1)).does(c -> c.grace(0))
                        .answers(VowCourt.BOND, c -> c.hindered(1)));
        suite.test("BOND: ENDED on an earlier day hinders not", () ->
                Court.vowed().does(c -> c.die(0)).does(c -> c.pass(1)).does(c -> c.vow(1, 2, 0, 0))
                        .answers(0, c -> c.hindered(1)));
        suite.test("BOND: ENDED on the same day hinders not", () ->
                Court.vowed().does(c -> c.pass(1)).does(c -> c.vow(1, 2, 0, 0))
                        .answers(VowCourt.BOND, c -> c.hindered(1)).does(c -> c.die(0)).answers(0, c -> c.hindered(1)));
        suite.test("BOND: ENDED a day behind it hinders still", () ->
                Court.vowed().does(c -> c.vow(1, 2, 0, 0)).does(c -> c.pass(1)).does(c -> c.die(0))
                        .answers(VowCourt.BOND, c -> c.hindered(1)));
    }

    private static void bondAsIsKnownNow(Suite suite) {
        suite.test("BOND: as is known now: NULL by documents later hinders not", () ->
                Court.vowed().does(c -> c.vow(0, 2, 0, 0)).does(c -> c.pass(9))
                        .answers(VowCourt.BOND, c -> c.hindered(1)).does(c -> c.documents(0))
                        .answers(0, c -> c.hindered(1)));
        suite.test("BOND: as is known now: NULL by a sentence later hinders not", () ->
                Court.inCause(4).does(c -> c.vow(0, 2, 0, 0)).judges(0, 4).answers(VowCourt.BOND, c -> c.hindered(1))
                        .judges(0, 4).answers(0, c -> c.hindered(1)));
        suite.test("BOND: as is known now: NULL behind its end hinders not", () ->
                Court.vowed().does(c -> c.vow(1, 2, 0, 0)).does(c -> c.pass(9)).does(c -> c.die(0))
                        .answers(VowCourt.BOND, c -> c.hindered(1)).does(c -> c.documents(0))
                        .answers(0, c -> c.hindered(1)));
        suite.test("BOND: one of two vows is NULL, the other one hinders still", () ->
                Court.vowed().does(c -> c.vow(0, 2, 0, 0)).does(c -> c.vow(0, 3, 0, 0)).does(c -> c.documents(0))
                        .answers(VowCourt.BOND, c -> c.hindered(2)).does(c -> c.documents(1))
                        .answers(0, c -> c.hindered(2)));
        suite.test("BOND: one of both is free, the other one is bound still", () ->
                Court.vowed().does(c -> c.vow(2, 3, 0, 0)).does(c -> c.vow(0, 2, 0, 0)).does(c -> c.documents(0))
                        .answers(VowCourt.BOND, c -> c.hindered(2)).does(c -> c.documents(1))
                        .answers(0, c -> c.hindered(2)));
        suite.test("BOND: it is told also of a vow that is NULL itself", () ->
                Court.vowed().does(c -> c.vow(0, 2, 0, 0)).does(c -> c.documents(1))
                        .answers(VowCourt.BOND, c -> c.hindered(1)));
    }

    private static void order(Suite suite) {
        suite.test("ORDER: the first of both had taken it", () ->
                Court.of(2).does(c -> c.order(0)).does(c -> c.vow(0, 1, 0, 0))
                        .answers(VowCourt.ORDER, c -> c.hindered(0)));
        suite.test("ORDER: the other of both had taken it", () ->
                Court.of(2).does(c -> c.order(1)).does(c -> c.vow(0, 1, 0, 0))
                        .answers(VowCourt.ORDER, c -> c.hindered(0)));
        suite.test("ORDER: both had taken it", () ->
                Court.of(2).does(c -> c.order(0)).does(c -> c.order(1)).does(c -> c.vow(0, 1, 0, 0))
                        .answers(VowCourt.ORDER, c -> c.hindered(0)));
        suite.test("ORDER: another person had taken it", () ->
                Court.of(3).does(c -> c.order(2)).does(c -> c.vow(0, 1, 0, 0)).answers(0, c -> c.hindered(0)));
        suite.test("ORDER: taken long ago", () ->
                Court.of(2).does(c -> c.order(0)).does(c -> c.pass(10000)).does(c -> c.vow(0, 1, 0, 0))
                        .answers(VowCourt.ORDER, c -> c.hindered(0)));
        suite.test("ORDER: taken later on that day hinders not", () ->
                Court.vowed().does(c -> c.order(1)).answers(0, c -> c.hindered(0)));
        suite.test("ORDER: taken on a later day hinders not", () ->
                Court.vowed().does(c -> c.pass(1)).does(c -> c.order(1)).answers(0, c -> c.hindered(0)));
        suite.test("ORDER: it hinders also when the one who took it is dead", () ->
                Court.of(2).does(c -> c.order(0)).does(c -> c.vow(0, 1, 0, 0)).does(c -> c.die(0))
                        .answers(VowCourt.ORDER, c -> c.hindered(0)));
    }

    private static void asItIsVowed(Suite suite) {
        suite.test("as it is vowed: a dispensation of AGE later on that day changes nothing", () ->
                Court.aged(5500, 5500).does(c -> c.vow(0, 1, 0, 0)).does(c -> c.dispense(0, 1, VowCourt.AGE))
                        .answers(VowCourt.AGE, c -> c.hindered(0)));
        suite.test("as it is vowed: a dispensation of KIN later on that day changes nothing", () ->
                DispenseTests.cousins().does(c -> c.vow(3, 4, 0, 0)).does(c -> c.dispense(3, 4, VowCourt.KIN))
                        .answers(VowCourt.KIN, c -> c.hindered(0)));
        suite.test("as it is vowed: a dispensation of ORDER later on that day changes nothing", () ->
                Court.of(2).does(c -> c.order(0)).does(c -> c.vow(0, 1, 0, 0))
                        .does(c -> c.dispense(0, 1, VowCourt.ORDER)).answers(VowCourt.ORDER, c -> c.hindered(0)));
        suite.test("as it is vowed: children told later change nothing", () ->
                Court.vowed().does(c -> c.person(0, 0, 1, 0)).answers(0, c -> c.hindered(0)));
    }

    private static void together(Suite suite) {
        suite.test("promise 25: AGE, KIN, BOND and ORDER are told together as 15", () ->
                Court.aged(9000).does(c -> c.person(0, 0, -1, 0)).does(c -> c.order(0)).does(c -> c.vow(0, 1, 0, 0))
                        .does(c -> c.vow(1, 0, 0, 0)).answers(15, c -> c.hindered(1)).answers(11, c -> c.hindered(0)));
        suite.test("promise 25: AGE and KIN are told together as 3", () ->
                Court.aged(9000).does(c -> c.person(0, 0, -1, 0)).does(c -> c.vow(0, 1, 0, 0))
                        .answers(3, c -> c.hindered(0)));
        suite.test("promise 25: AGE and BOND are told together as 5", () ->
                Court.aged(9000, 9000, 100).does(c -> c.vow(0, 1, 0, 0)).does(c -> c.vow(0, 2, 0, 0))
                        .answers(5, c -> c.hindered(1)));
        suite.test("promise 25: BOND and ORDER are told together as 12", () ->
                Court.vowed().does(c -> c.order(2)).does(c -> c.vow(0, 2, 0, 0)).answers(12, c -> c.hindered(1)));
        suite.test("promise 25: 0 if nothing hinders it", () -> Court.vowed().answers(0, c -> c.hindered(0)));
        suite.test("promise 25: the lack of the form is not told with it", () ->
                Court.vowed().answers(1, c -> c.vowOf(0, 3)).answers(0, c -> c.hindered(0)));
        suite.test("promise 25: there is no vow of this number", () ->
                Court.vowed().outOfBounds(c -> c.hindered(1)).outOfBounds(c -> c.hindered(-1)));
        suite.test("promise 25: what hinders a DISSOLVED vow is told still", () ->
                Court.of(2).does(c -> c.order(0)).does(c -> c.vow(0, 1, 0, 0)).does(c -> c.grace(0))
                        .answers(VowCourt.ORDER, c -> c.hindered(0)));
    }
}
