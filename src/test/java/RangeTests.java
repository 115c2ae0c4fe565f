import java.util.function.Consumer;
import java.util.function.Supplier;

/** Each argument of each call: its least and its most are taken; one less, one more and the ends of int are not. */
final class RangeTests {
    private interface Call {
        void on(VowCourt court, int value);
    }

    private RangeTests() {
    }

    static void tell(Suite suite) {
        persons(suite);
        dispense(suite);
        faculties(suite);
        vow(suite);
        vows(suite);
        causes(suite);
        proofs(suite);
        votes(suite);
        kin(suite);
        askingOfVows(suite);
        asking(suite);
    }

    private static Consumer<VowCourt> with(Call call, int value) {
        return c -> call.on(c, value);
    }

    /** An argument from a least to a most value; others are an IllegalArgumentException. */
    private static void range(Suite suite, String what, int least, int most, Supplier<Court> made, Call call) {
        taken(suite, what, made, call, least, most);
        for (int value : new int[] {least - 1, most + 1, Integer.MIN_VALUE, Integer.MAX_VALUE}) {
            suite.test(what + " " + value + " is out of range", () -> made.get().illegalArgument(with(call, value)));
        }
    }

    /** A person, vow, cause or judge by number, below a count; others are an IndexOutOfBoundsException. */
    private static void number(Suite suite, String what, int count, Supplier<Court> made, Call call) {
        taken(suite, what, made, call, 0, count - 1);
        noSuch(suite, what, made, call, -1, count);
    }

    private static void taken(Suite suite, String what, Supplier<Court> made, Call call, int... values) {
        for (int at = 0; at < values.length; at++) {
            int value = values[at];
            if (at == 0 || value != values[at - 1]) {
                suite.test(what + " " + value + " is taken", () -> made.get().does(with(call, value)));
            }
        }
    }

    private static void noSuch(Suite suite, String what, Supplier<Court> made, Call call, int below, int above) {
        for (int value : new int[] {below, above, Integer.MIN_VALUE, Integer.MAX_VALUE}) {
            suite.test(what + " " + value + " does not exist", () -> made.get().outOfBounds(with(call, value)));
        }
    }

    private static void persons(Suite suite) {
        range(suite, "promise 2, age", 0, 36000, Court::new, (c, v) -> c.person(v, -1, -1, 0));
        range(suite, "promise 2, home", 0, 7, Court::new, (c, v) -> c.person(0, -1, -1, v));
        taken(suite, "promise 2, father", () -> Court.of(3), (c, v) -> c.person(0, v, -1, 0), -1, 0, 2);
        noSuch(suite, "promise 2, father", () -> Court.of(3), (c, v) -> c.person(0, v, -1, 0), -2, 3);
        taken(suite, "promise 2, mother", () -> Court.of(3), (c, v) -> c.person(0, -1, v, 0), -1, 0, 2);
        noSuch(suite, "promise 2, mother", () -> Court.of(3), (c, v) -> c.person(0, -1, v, 0), -2, 3);
        number(suite, "promise 3, person", 3, () -> Court.of(3), (c, v) -> c.rite(v, 1));
        range(suite, "promise 3, rite", 0, 2, () -> Court.of(3), (c, v) -> c.rite(2, v));
        number(suite, "promise 4, person", 3, () -> Court.of(3), (c, v) -> c.home(v, 1));
        range(suite, "promise 4, home", 0, 7, () -> Court.of(3), (c, v) -> c.home(2, v));
        number(suite, "promise 5, person", 3, () -> Court.of(3), (c, v) -> c.order(v));
        number(suite, "promise 6, person", 3, () -> Court.of(3), (c, v) -> c.ban(v));
        number(suite, "promise 7, person", 3, () -> Court.of(3), (c, v) -> c.die(v));
        number(suite, "promise 7, of 24, person", 24, () -> Court.of(24), (c, v) -> c.die(v));
    }

    private static Court allOrdered() {
        return Court.of(3).does(c -> c.order(0)).does(c -> c.order(1)).does(c -> c.order(2));
    }

    private static void dispense(Suite suite) {
        taken(suite, "promise 8, one", RangeTests::allOrdered, (c, v) -> c.dispense(v, 1, 8), 0, 2);
        noSuch(suite, "promise 8, one", RangeTests::allOrdered, (c, v) -> c.dispense(v, 1, 8), -1, 3);
        taken(suite, "promise 8, other", RangeTests::allOrdered, (c, v) -> c.dispense(1, v, 8), 0, 2);
        noSuch(suite, "promise 8, other", RangeTests::allOrdered, (c, v) -> c.dispense(1, v, 8), -1, 3);
        int[] none = {Integer.MIN_VALUE, -8, -2, -1, 0, 3, 4, 5, 6, 7, 9, 10, 11, 12, 15, 16, 32, 64,
            257, 65537, Integer.MAX_VALUE};
        for (int kind : none) {
            suite.test("promise 8, kind " + kind + " is none of AGE, KIN and ORDER", () ->
                    allOrdered().illegalArgument(c -> c.dispense(0, 1, kind)));
        }
        for (int at = 0; at < 3; at++) {
            int person = at;
            suite.test("promise 8, one and other are the same: " + person, () ->
                    allOrdered().illegalArgument(c -> c.dispense(person, person, VowCourt.ORDER)));
        }
    }

    private static void faculties(Suite suite) {
        range(suite, "promise 9, witness", 0, 5, Court::new, (c, v) -> c.faculty(v, 0, 1));
        range(suite, "promise 9, place", 0, 7, Court::new, (c, v) -> c.faculty(0, v, 1));
        range(suite, "promise 9, days", 0, 10000, Court::new, (c, v) -> c.faculty(0, 0, v));
        range(suite, "promise 10, place", 0, 7, Court::new, (c, v) -> c.error(v));
        range(suite, "promise 22, days", 1, 10000, Court::new, (c, v) -> c.pass(v));
    }

    private static void vow(Suite suite) {
        taken(suite, "promise 11, one", () -> Court.of(3), (c, v) -> c.vow(v, 1, 0, 0), 0, 2);
        noSuch(suite, "promise 11, one", () -> Court.of(3), (c, v) -> c.vow(v, 1, 0, 0), -1, 3);
        taken(suite, "promise 11, other", () -> Court.of(3), (c, v) -> c.vow(1, v, 0, 0), 0, 2);
        noSuch(suite, "promise 11, other", () -> Court.of(3), (c, v) -> c.vow(1, v, 0, 0), -1, 3);
        range(suite, "promise 11, place", 0, 7, () -> Court.of(2), (c, v) -> c.vow(0, 1, v, 0));
        range(suite, "promise 11, witness", 0, 5, () -> Court.of(2), (c, v) -> c.vow(0, 1, 0, v));
    }

    private static Court threeVows() {
        return Court.of(6).does(c -> c.vow(0, 1, 0, 0)).does(c -> c.vow(2, 3, 0, 0)).does(c -> c.vow(4, 5, 0, 0));
    }

    private static void vows(Suite suite) {
        number(suite, "promise 12, vow", 3, RangeTests::threeVows, (c, v) -> c.heal(v));
        number(suite, "promise 13, vow", 3, RangeTests::threeVows, (c, v) -> c.grace(v));
        number(suite, "promise 14, vow", 3, RangeTests::threeVows, (c, v) -> c.documents(v));
        number(suite, "promise 15, vow", 3, RangeTests::threeVows, (c, v) -> c.cause(v, 0, 1, false));
        range(suite, "promise 15, place, by leave", 0, 7, Court::vowed, (c, v) -> c.cause(0, v, 1, true));
        range(suite, "promise 15, doubt", 1, 127, Court::vowed, (c, v) -> c.cause(0, 3, v, false));
        for (int place : new int[] {-1, 8, Integer.MIN_VALUE, Integer.MAX_VALUE}) {
            suite.test("promise 15, place, without leave " + place + " is out of range", () ->
                    Court.vowed().illegalArgument(c -> c.cause(0, place, 1, false)));
        }
        for (int doubt : new int[] {-127, 129, 255, 256}) {
            suite.test("promise 15, doubt " + doubt + " is out of range", () ->
                    Court.vowed().illegalArgument(c -> c.cause(0, 3, doubt, false)));
        }
    }

    private static Court threeCauses() {
        Court court = threeVows();
        for (int at = 0; at < 3; at++) {
            int vow = at;
            court.does(c -> c.cause(vow, 0, 127, false));
        }
        return court;
    }

    private static Court threePublished() {
        return threeCauses().does(c -> c.publish(0)).does(c -> c.publish(1)).does(c -> c.publish(2));
    }

    private static Court threeVoted() {
        return threePublished().votes(0, 0, 0, 0).votes(1, 0, 0, 0).votes(2, 0, 0, 0);
    }

    private static Court threeRefused() {
        return threeVoted().does(c -> c.sentence(0)).does(c -> c.sentence(1)).does(c -> c.sentence(2));
    }

    private static void causes(Suite suite) {
        number(suite, "promise 16, cause", 3, RangeTests::threeCauses, (c, v) -> c.doubt(v, 1));
        range(suite, "promise 16, doubt", 1, 127, RangeTests::threeCauses, (c, v) -> c.doubt(2, v));
        number(suite, "promise 18, cause", 3, RangeTests::threeCauses, (c, v) -> c.publish(v));
        number(suite, "promise 20, cause", 3, RangeTests::threeVoted, (c, v) -> c.sentence(v));
        number(suite, "promise 21, cause", 3, RangeTests::threeRefused, (c, v) -> c.appeal(v));
    }

    private static void proofs(Suite suite) {
        number(suite, "promise 17, cause", 3, RangeTests::threeCauses, (c, v) -> c.proof(v, 0, 1));
        range(suite, "promise 17, ground", 0, 6, RangeTests::threeCauses, (c, v) -> c.proof(2, v, 1));
        range(suite, "promise 17, weight", -10, 10, RangeTests::threeCauses, (c, v) -> c.proof(2, 6, v));
        for (int ground : new int[] {31, 32, 33, 64, -32}) {
            suite.test("promise 17, ground " + ground + " is out of range, and no power of 2 wraps around", () ->
                    threeCauses().illegalArgument(c -> c.proof(0, ground, 1)));
        }
    }

    private static void votes(Suite suite) {
        number(suite, "promise 19, cause", 3, RangeTests::threePublished, (c, v) -> c.vote(v, 0, 0));
        number(suite, "promise 19, judge", 3, RangeTests::threePublished, (c, v) -> c.vote(2, v, 0));
        range(suite, "promise 19, grounds", 0, 127, () -> Court.inCause(127).does(c -> c.publish(0)),
                (c, v) -> c.vote(0, 2, v));
    }

    private static void kin(Suite suite) {
        number(suite, "promise 23, one", 3, () -> Court.of(3), (c, v) -> c.kin(v, 1));
        number(suite, "promise 23, other", 3, () -> Court.of(3), (c, v) -> c.kin(1, v));
        number(suite, "promise 23, of 24, one", 24, () -> Court.of(24), (c, v) -> c.kin(v, 1));
        number(suite, "promise 24, person", 3, () -> Court.of(3), (c, v) -> c.ancestor(v, 0));
        taken(suite, "promise 24, place", () -> Court.of(3), (c, v) -> c.ancestor(1, v), 0, Integer.MAX_VALUE);
        for (int place : new int[] {-1, Integer.MIN_VALUE}) {
            suite.test("promise 24, place " + place + " is below 0", () ->
                    Court.of(3).outOfBounds(c -> c.ancestor(1, place)));
        }
    }

    private static void askingOfVows(Suite suite) {
        number(suite, "promise 25, vow", 3, RangeTests::threeVows, (c, v) -> c.hindered(v));
        number(suite, "promise 26, vow", 3, RangeTests::threeVows, (c, v) -> c.vowOf(v, 0));
        range(suite, "promise 26, what", 0, 4, RangeTests::threeVows, (c, v) -> c.vowOf(2, v));
        number(suite, "promise 28, vow", 3, RangeTests::threeVows, (c, v) -> c.hasCause(v, 0));
        range(suite, "promise 28, place", 0, 7, RangeTests::threeVows, (c, v) -> c.hasCause(2, v));
    }

    private static void asking(Suite suite) {
        number(suite, "promise 27, person", 3, () -> Court.of(3), (c, v) -> c.bound(v, 0));
        range(suite, "promise 27, day", 0, 1000000, Court::vowed, (c, v) -> c.bound(0, v));
        number(suite, "promise 29, cause", 3, RangeTests::threeCauses, (c, v) -> c.causeOf(v, 0));
        range(suite, "promise 29, what", 0, 6, RangeTests::threeCauses, (c, v) -> c.causeOf(2, v));
        number(suite, "promise 30, person", 3, () -> Court.of(3), (c, v) -> c.state(v, 0, 0));
        range(suite, "promise 30, day", 0, 1000000, Court::vowed, (c, v) -> c.state(0, v, 0));
        taken(suite, "promise 30, place", Court::vowed, (c, v) -> c.state(0, 0, v), 0, Integer.MAX_VALUE);
        for (int place : new int[] {-1, Integer.MIN_VALUE}) {
            suite.test("promise 30, place " + place + " is below 0", () ->
                    Court.vowed().outOfBounds(c -> c.state(0, 0, place)));
        }
    }
}
