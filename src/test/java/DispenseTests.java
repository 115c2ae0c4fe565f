import java.util.function.Supplier;

/** Promise 8, and what "Vows" says of what is dispensed. */
final class DispenseTests {
    private static final int FULL = 16 * 360;
    private static final int LEAST = 14 * 360;
    private static final int AGE = VowCourt.AGE;
    private static final int KIN = VowCourt.KIN;
    private static final int ORDER = VowCourt.ORDER;

    private DispenseTests() {
    }

    static void tell(Suite suite) {
        ofAge(suite);
        ofKin(suite);
        ofOrder(suite);
        wouldNotHinder(suite);
        was(suite);
        forBoth(suite);
        ahead(suite);
        each(suite);
    }

    /** 1 and 2 are children of 0; 3 is of 1, 4 of 2; 5 is of 3, 6 of 4. All are grown. */
    static Court cousins() {
        return Court.family(-1, -1, 0, -1, 0, -1, 1, -1, -1, 2, 3, -1, -1, 4);
    }

    /** 0 has taken the order; nobody is kin. */
    private static Court ordered(int persons) {
        return Court.of(persons).does(c -> c.order(0));
    }

    private static void can(Suite suite, String what, Supplier<Court> made, int one, int other, int kind) {
        suite.test("promise 8: " + what, () -> made.get().does(c -> c.dispense(one, other, kind))
                .does(c -> c.vow(one, other, 0, 0)).answers(0, c -> c.hindered(0)));
    }

    private static void cannot(Suite suite, String what, Supplier<Court> made, int one, int other, int kind) {
        suite.test("promise 8: " + what, () -> made.get().illegalState(c -> c.dispense(one, other, kind)));
    }

    private static void ofAge(Suite suite) {
        can(suite, "AGE can be dispensed if both are 14 years old", () -> Court.aged(LEAST, LEAST), 0, 1, AGE);
        can(suite, "AGE can be dispensed if one is 14, the other one grown", () -> Court.aged(LEAST, 9000), 0, 1, AGE);
        can(suite, "AGE can be dispensed a day ahead of 16", () -> Court.aged(FULL - 1, FULL), 0, 1, AGE);
        cannot(suite, "AGE cannot be dispensed if the first is a day less than 14",
                () -> Court.aged(LEAST - 1, LEAST), 0, 1, AGE);
        cannot(suite, "AGE cannot be dispensed if the other one is a day less than 14",
                () -> Court.aged(LEAST - 1, LEAST), 1, 0, AGE);
        cannot(suite, "AGE cannot be dispensed if one is a day less than 14, the other one grown",
                () -> Court.aged(LEAST - 1, 9000), 0, 1, AGE);
        cannot(suite, "AGE cannot be dispensed if one was born today", () -> Court.aged(0, 9000), 0, 1, AGE);
        suite.test("promise 8: AGE can be dispensed from the day on which both are 14", () ->
                Court.aged(LEAST - 1, LEAST).illegalState(c -> c.dispense(0, 1, AGE)).does(c -> c.pass(1))
                        .does(c -> c.dispense(0, 1, AGE)));
    }

    private static void ofKin(Suite suite) {
        can(suite, "KIN can be dispensed in the degree 3", () -> cousins(), 1, 4, KIN);
        can(suite, "KIN can be dispensed in the degree 4", () -> cousins(), 3, 4, KIN);
        can(suite, "KIN can be dispensed in the degree 3 beside a line of 4",
                () -> HindranceTests.lineAndWay(4, 2), 1, 5, KIN);
        can(suite, "KIN can be dispensed in the degree 4 beside a line of 5",
                () -> HindranceTests.lineAndWay(5, 3), 1, 6, KIN);
        cannot(suite, "KIN cannot be dispensed in the degree 2", () -> cousins(), 1, 2, KIN);
        cannot(suite, "KIN cannot be dispensed in the degree 2 beside a line of 3",
                () -> HindranceTests.lineAndWay(3, 1), 1, 4, KIN);
        cannot(suite, "KIN cannot be dispensed in line, degree 1", () -> cousins(), 0, 1, KIN);
        cannot(suite, "KIN cannot be dispensed in line, degree 2", () -> cousins(), 3, 0, KIN);
        cannot(suite, "KIN cannot be dispensed in line, degree 3", () -> cousins(), 0, 5, KIN);
        cannot(suite, "KIN cannot be dispensed in line, degree 3, with a way of 3 beside it",
                () -> HindranceTests.lineAndWay(3, 2), 1, 4, KIN);
        cannot(suite, "KIN cannot be dispensed in line, degree 5",
                () -> Court.family(-1, -1, 0, -1, 1, -1, 2, -1, 3, -1, 4, -1), 5, 0, KIN);
        cannot(suite, "KIN cannot be dispensed in line, degree 5, with a way of 5 beside it",
                () -> HindranceTests.lineAndWay(5, 4), 1, 6, KIN);
    }

    private static void ofOrder(Suite suite) {
        can(suite, "ORDER can be dispensed if the first has taken it", () -> ordered(2), 0, 1, ORDER);
        can(suite, "ORDER can be dispensed if the other one has taken it", () -> ordered(2), 1, 0, ORDER);
        can(suite, "ORDER can be dispensed if both have taken it", () -> ordered(2).does(c -> c.order(1)), 0, 1, ORDER);
        suite.test("promise 8: ORDER always: also if both are too young, and kin in line", () ->
                Court.aged(10).does(c -> c.person(5, 0, -1, 0)).does(c -> c.order(0))
                        .does(c -> c.dispense(0, 1, ORDER)).does(c -> c.vow(0, 1, 0, 0))
                        .answers(AGE + KIN, c -> c.hindered(0)));
        suite.test("promise 8: ORDER always: also if one is bound", () ->
                ordered(3).does(c -> c.vow(0, 1, 0, 0)).does(c -> c.dispense(0, 2, ORDER))
                        .does(c -> c.vow(0, 2, 0, 0)).answers(VowCourt.BOND, c -> c.hindered(1)));
        suite.test("promise 8: BOND never", () ->
                Court.vowed().illegalArgument(c -> c.dispense(0, 2, VowCourt.BOND))
                        .illegalArgument(c -> c.dispense(2, 3, VowCourt.BOND)));
    }

    private static void wouldNotHinder(Suite suite) {
        cannot(suite, "AGE would not hinder a vow today: both are 16", () -> Court.aged(FULL, FULL), 0, 1, AGE);
        cannot(suite, "KIN would not hinder a vow today: they are not kin", () -> Court.of(2), 0, 1, KIN);
        cannot(suite, "KIN would not hinder a vow today: degree 5", () -> cousins(), 5, 4, KIN);
        cannot(suite, "KIN would not hinder a vow today: a line of 6, but a way of 5",
                () -> HindranceTests.lineAndWay(6, 4), 1, 7, KIN);
        cannot(suite, "ORDER would not hinder a vow today: none has taken it", () -> Court.of(2), 0, 1, ORDER);
        cannot(suite, "ORDER would not hinder a vow today: another person has taken it", () -> ordered(3), 1, 2, ORDER);
        cannot(suite, "AGE would not hinder a vow today, but KIN would", () -> cousins(), 3, 4, AGE);
        cannot(suite, "KIN would not hinder a vow today, but AGE would", () -> Court.aged(LEAST, LEAST), 0, 1, KIN);
        cannot(suite, "ORDER would not hinder a vow today, but AGE would", () -> Court.aged(LEAST, LEAST), 0, 1, ORDER);
        suite.test("promise 8: AGE would hinder a vow a day ahead, but not today", () ->
                Court.aged(FULL - 1, FULL).does(c -> c.pass(1)).illegalState(c -> c.dispense(0, 1, AGE)));
    }

    private static void was(Suite suite) {
        suite.test("promise 8: AGE was dispensed", () ->
                Court.aged(LEAST, LEAST).does(c -> c.dispense(0, 1, AGE)).illegalState(c -> c.dispense(0, 1, AGE)));
        suite.test("promise 8: AGE was dispensed, in the other order", () ->
                Court.aged(LEAST, LEAST).does(c -> c.dispense(0, 1, AGE)).illegalState(c -> c.dispense(1, 0, AGE)));
        suite.test("promise 8: KIN was dispensed", () ->
                cousins().does(c -> c.dispense(3, 4, KIN)).illegalState(c -> c.dispense(3, 4, KIN)));
        suite.test("promise 8: KIN was dispensed, in the other order", () ->
                cousins().does(c -> c.dispense(3, 4, KIN)).illegalState(c -> c.dispense(4, 3, KIN)));
        suite.test("promise 8: ORDER was dispensed", () ->
                ordered(2).does(c -> c.dispense(0, 1, ORDER)).illegalState(c -> c.dispense(0, 1, ORDER)));
        suite.test("promise 8: ORDER was dispensed, in the other order", () ->
                ordered(2).does(c -> c.dispense(0, 1, ORDER)).illegalState(c -> c.dispense(1, 0, ORDER)));
        suite.test("promise 8: it was dispensed, also days and vows ago", () ->
                ordered(2).does(c -> c.dispense(0, 1, ORDER)).does(c -> c.vow(0, 1, 0, 0)).does(c -> c.pass(10000))
                        .illegalState(c -> c.dispense(0, 1, ORDER)));
        suite.test("promise 8: ORDER was dispensed, also if the other one takes it later", () ->
                ordered(2).does(c -> c.dispense(0, 1, ORDER)).does(c -> c.order(1))
                        .illegalState(c -> c.dispense(0, 1, ORDER)).does(c -> c.vow(0, 1, 0, 0))
                        .answers(0, c -> c.hindered(0)));
    }

    private static void forBoth(Suite suite) {
        suite.test("promise 8: AGE in whatever order", () ->
                Court.aged(LEAST, LEAST).does(c -> c.dispense(1, 0, AGE)).does(c -> c.vow(0, 1, 0, 0))
                        .answers(0, c -> c.hindered(0)));
        suite.test("promise 8: KIN in whatever order", () ->
                cousins().does(c -> c.dispense(4, 3, KIN)).does(c -> c.vow(3, 4, 0, 0))
                        .answers(0, c -> c.hindered(0)));
        suite.test("promise 8: ORDER in whatever order", () ->
                ordered(2).does(c -> c.dispense(1, 0, ORDER)).does(c -> c.vow(0, 1, 0, 0))
                        .answers(0, c -> c.hindered(0)));
        suite.test("promise 8: for both: not for one of them with another", () ->
                ordered(3).does(c -> c.dispense(0, 1, ORDER)).does(c -> c.vow(0, 2, 0, 0))
                        .answers(ORDER, c -> c.hindered(0)));
        suite.test("promise 8: for both: not for the other of them with another", () ->
                Court.aged(LEAST, LEAST, LEAST).does(c -> c.dispense(0, 1, AGE)).does(c -> c.vow(1, 2, 0, 0))
                        .answers(AGE, c -> c.hindered(0)));
        suite.test("promise 8: each of them may be dispensed with another too", () ->
                ordered(3).does(c -> c.dispense(0, 1, ORDER)).does(c -> c.dispense(0, 2, ORDER))
                        .does(c -> c.vow(0, 2, 0, 0)).answers(0, c -> c.hindered(0)));
    }

    private static void ahead(Suite suite) {
        suite.test("promise 8: for all vows behind that", () ->
                ordered(2).does(c -> c.dispense(0, 1, ORDER)).does(c -> c.vow(0, 1, 0, 0)).does(c -> c.grace(0))
                        .does(c -> c.pass(500)).does(c -> c.vow(1, 0, 0, 0)).answers(0, c -> c.hindered(0))
                        .answers(0, c -> c.hindered(1)));
        suite.test("promise 8: for all vows behind that, however late", () ->
                ordered(2).does(c -> c.dispense(0, 1, ORDER)).does(c -> c.pass(10000)).does(c -> c.pass(10000))
                        .does(c -> c.pass(10000)).does(c -> c.vow(0, 1, 0, 0)).answers(0, c -> c.hindered(0)));
        suite.test("promise 8: AGE for a second vow too, while one is not 16", () ->
                Court.aged(LEAST, LEAST).does(c -> c.dispense(0, 1, AGE)).does(c -> c.vow(0, 1, 0, 0))
                        .does(c -> c.grace(0)).does(c -> c.pass(100)).does(c -> c.vow(1, 0, 0, 0))
                        .answers(0, c -> c.hindered(1)));
        suite.test("promise 8: ahead of it: a vow on the same day ahead is hindered still", () ->
                ordered(2).does(c -> c.vow(0, 1, 0, 0)).does(c -> c.dispense(0, 1, ORDER))
                        .does(c -> c.vow(0, 1, 0, 0)).answers(ORDER, c -> c.hindered(0))
                        .answers(VowCourt.BOND, c -> c.hindered(1)));
    }

    private static void each(Suite suite) {
        suite.test("promise 8: AGE dispensed leaves KIN", () ->
                kinTooYoung().does(c -> c.dispense(1, 3, AGE)).does(c -> c.vow(1, 3, 0, 0))
                        .answers(KIN + ORDER, c -> c.hindered(0)));
        suite.test("promise 8: KIN dispensed leaves AGE", () ->
                kinTooYoung().does(c -> c.dispense(1, 3, KIN)).does(c -> c.vow(1, 3, 0, 0))
                        .answers(AGE + ORDER, c -> c.hindered(0)));
        suite.test("promise 8: ORDER dispensed leaves AGE and KIN", () ->
                kinTooYoung().does(c -> c.dispense(1, 3, ORDER)).does(c -> c.vow(1, 3, 0, 0))
                        .answers(AGE + KIN, c -> c.hindered(0)));
        suite.test("promise 8: all three dispensed, one behind the other", () ->
                kinTooYoung().does(c -> c.dispense(1, 3, ORDER)).does(c -> c.dispense(3, 1, AGE))
                        .does(c -> c.dispense(1, 3, KIN)).does(c -> c.vow(3, 1, 0, 0)).answers(0, c -> c.hindered(0))
                        .illegalState(c -> c.dispense(1, 3, AGE)).illegalState(c -> c.dispense(1, 3, KIN))
                        .illegalState(c -> c.dispense(1, 3, ORDER)));
        suite.test("promise 8: a refused dispensation of ORDER does not hold when it is taken later", () ->
                Court.of(2).illegalState(c -> c.dispense(0, 1, ORDER)).illegalState(c -> c.dispense(1, 0, ORDER))
                        .does(c -> c.order(0)).does(c -> c.vow(0, 1, 0, 0)).answers(ORDER, c -> c.hindered(0))
                        .does(c -> c.dispense(0, 1, ORDER)));
        suite.test("promise 8: it is not asked whether both live", () ->
                ordered(3).does(c -> c.die(0)).does(c -> c.dispense(0, 1, ORDER)).does(c -> c.die(2))
                        .does(c -> c.dispense(2, 0, ORDER)));
        suite.test("promise 8: a dispensation is no vow, and binds nobody", () ->
                ordered(2).does(c -> c.dispense(0, 1, ORDER)).answers(-1, c -> c.bound(0, 0))
                        .outOfBounds(c -> c.hindered(0)));
    }

    /** 1 is an uncle of 3; both are too young, and 1 has taken the order. */
    private static Court kinTooYoung() {
        return new Court().does(c -> c.person(9000, -1, -1, 0)).does(c -> c.person(LEAST, 0, -1, 0))
                .does(c -> c.person(9000, 0, -1, 0)).does(c -> c.person(LEAST, 2, -1, 0)).does(c -> c.order(1));
    }
}
