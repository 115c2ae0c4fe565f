/** Promises 23 and 24, and what "Persons, kin" says of lines. */
final class KinTests {
    private KinTests() {
    }

    static void tell(Suite suite) {
        degrees(suite);
        inLine(suite);
        fewestSteps(suite);
        longLines(suite);
        notKin(suite);
        ancestor(suite);
        ancestorsOrder(suite);
    }

    private static void kinIs(Suite suite, String what, int due, int one, int other, int... parents) {
        suite.test("promise 23: " + what, () -> Court.family(parents).answers(due, c -> c.kin(one, other)));
        if (one != other) {
            suite.test("promise 23, the other way round: " + what, () ->
                    Court.family(parents).answers(due, c -> c.kin(other, one)));
        }
    }

    private static void degrees(Suite suite) {
        kinIs(suite, "brothers by a father are kin in the degree 2", 200, 1, 2, -1, -1, 0, -1, 0, -1);
        kinIs(suite, "brothers by a mother are kin in the degree 2", 200, 1, 2, -1, -1, -1, 0, -1, 0);
        kinIs(suite, "one's father is the other one's mother", 200, 1, 2, -1, -1, 0, -1, -1, 0);
        kinIs(suite, "brothers by both are kin in the degree 2", 200, 2, 3, -1, -1, -1, -1, 0, 1, 0, 1);
        kinIs(suite, "an uncle is kin in the degree 3", 300, 1, 3, -1, -1, 0, -1, 0, -1, 2, -1);
        kinIs(suite, "cousins are kin in the degree 4", 400, 3, 4, -1, -1, 0, -1, 0, -1, 1, -1, -1, 2);
        kinIs(suite, "a cousin's child is kin in the degree 5", 500, 5, 4,
                -1, -1, 0, -1, 0, -1, 1, -1, 2, -1, 3, -1);
        kinIs(suite, "children of cousins are kin in the degree 6", 600, 5, 6,
                -1, -1, 0, -1, 0, -1, 1, -1, 2, -1, 3, -1, -1, 4);
    }

    private static void inLine(Suite suite) {
        kinIs(suite, "to oneself by no step, and in line", 1, 0, 0, -1, -1);
        kinIs(suite, "to oneself by no step, with parents too", 1, 2, 2, -1, -1, -1, -1, 0, 1);
        kinIs(suite, "a father is kin in line", 101, 0, 1, -1, -1, 0, -1);
        kinIs(suite, "a mother is kin in line", 101, 0, 1, -1, -1, -1, 0);
        kinIs(suite, "a father's father", 201, 0, 2, -1, -1, 0, -1, 1, -1);
        kinIs(suite, "a father's mother", 201, 0, 2, -1, -1, -1, 0, 1, -1);
        kinIs(suite, "a mother's father", 201, 0, 2, -1, -1, 0, -1, -1, 1);
        kinIs(suite, "a mother's mother", 201, 0, 2, -1, -1, -1, 0, -1, 1);
    }

    private static void fewestSteps(Suite suite) {
        kinIs(suite, "a father who is a brother too, by the line", 101, 1, 2, -1, -1, 0, -1, 1, 0);
        kinIs(suite, "a father's father who is the mother's brother too", 201, 1, 3,
                -1, -1, 0, -1, 1, -1, 2, 0);
        kinIs(suite, "a line of 3 steps, and a way of 3 beside it: in line", 301, 1, 4,
                -1, -1, 0, -1, 1, -1, 2, 0, 3, -1);
        kinIs(suite, "a line of 3 steps, but a way of 2: not in line", 200, 1, 4,
                -1, -1, 0, -1, 1, -1, 2, -1, 3, 0);
        kinIs(suite, "a line of 4 steps, but a way of 3: not in line", 300, 1, 5,
                -1, -1, 0, -1, 1, -1, 2, -1, 3, 0, 4, -1);
        kinIs(suite, "a way of 4 steps by the father, and one of 2 by the mother", 200, 5, 2,
                -1, -1, -1, -1, 0, 1, 0, -1, 3, -1, 4, 1);
        kinIs(suite, "the father's line is the shorter one", 101, 0, 3, -1, -1, 0, -1, 1, -1, 0, 2);
        kinIs(suite, "the mother's line is the shorter one", 101, 0, 3, -1, -1, 0, -1, 1, -1, 2, 0);
    }

    private static void longLines(Suite suite) {
        suite.test("promise 23: a line of 23 steps, by fathers", () -> Court.family(lineOf24(true))
                .answers(2301, c -> c.kin(0, 23)).answers(2301, c -> c.kin(23, 0)));
        suite.test("promise 23: a line of 23 steps, by mothers", () -> Court.family(lineOf24(false))
                .answers(2301, c -> c.kin(0, 23)).answers(2301, c -> c.kin(23, 0)));
        suite.test("promise 23: two lines of 23 steps together", () -> {
            int[] parents = lineOf24(true);
            for (int number = 2; number < 24; number++) {
                parents[2 * number] = number - 2;
            }
            Court.family(parents).answers(2300, c -> c.kin(22, 23)).answers(2300, c -> c.kin(23, 22));
        });
        suite.test("promise 23: in a line where each has two of it as parents, the fewest steps", () -> {
            int[] parents = lineOf24(true);
            for (int number = 2; number < 24; number++) {
                parents[2 * number + 1] = number - 2;
            }
            Court.family(parents).answers(1201, c -> c.kin(0, 23)).answers(101, c -> c.kin(23, 21))
                    .answers(201, c -> c.kin(23, 20)).answers(0, c -> c.ancestor(23, 22))
                    .answers(-1, c -> c.ancestor(23, 23));
        });
    }

    /** Each is the child of the one with a number less. */
    static int[] lineOf24(boolean byFathers) {
        int[] parents = new int[48];
        for (int number = 0; number < 24; number++) {
            parents[2 * number] = byFathers ? number - 1 : -1;
            parents[2 * number + 1] = byFathers ? -1 : number - 1;
        }
        return parents;
    }

    private static void notKin(Suite suite) {
        kinIs(suite, "-1 for those without parents", -1, 0, 1, -1, -1, -1, -1);
        kinIs(suite, "a child in common makes no kin", -1, 0, 1, -1, -1, -1, -1, 0, 1);
        kinIs(suite, "a father's kin are not the mother's", -1, 1, 3, -1, -1, -1, -1, 0, 1, 0, -1);
        kinIs(suite, "children of those who are not kin", -1, 2, 3, -1, -1, -1, -1, 0, -1, 1, -1);
        suite.test("promise 23: persons told later change nothing", () ->
                Court.family(-1, -1, -1, -1, 0, 1).answers(-1, c -> c.kin(0, 1))
                        .does(c -> c.person(0, 0, 1, 0)).does(c -> c.person(0, 2, 3, 0)).answers(-1, c -> c.kin(0, 1))
                        .answers(200, c -> c.kin(2, 3)));
        suite.test("promise 23: the dead stay kin", () ->
                Court.family(-1, -1, 0, -1, 0, -1).does(c -> c.die(0)).does(c -> c.die(1))
                        .answers(200, c -> c.kin(1, 2)).answers(101, c -> c.kin(0, 2)));
        suite.test("promise 23: a vow makes no kin", () -> Court.vowed().answers(-1, c -> c.kin(0, 1)));
    }

    private static void ancestor(Suite suite) {
        suite.test("promise 24: -1 for one without parents", () -> Court.of(2).answers(-1, c -> c.ancestor(1, 0)));
        suite.test("promise 24: place 0 is the first one", () ->
                Court.family(-1, -1, 0, -1).answers(0, c -> c.ancestor(1, 0)));
        suite.test("promise 24: -1 if there are not so many", () ->
                Court.family(-1, -1, 0, -1).answers(-1, c -> c.ancestor(1, 1)));
        suite.test("promise 24: -1 far behind the last one", () ->
                Court.family(-1, -1, 0, -1).answers(-1, c -> c.ancestor(1, Integer.MAX_VALUE))
                        .answers(-1, c -> c.ancestor(1, 24)).answers(-1, c -> c.ancestor(1, 1 << 16)));
        suite.test("promise 24: without the person", () -> {
            Court court = Court.family(-1, -1, -1, -1, 0, 1);
            ancestorsAre(court, 2, 0, 1);
        });
        suite.test("promise 24: children are not of the lines", () -> {
            Court court = Court.family(-1, -1, 0, -1, 1, -1);
            ancestorsAre(court, 1, 0);
        });
        suite.test("promise 24: place -1 is out of bounds", () ->
                Court.family(-1, -1, 0, -1).outOfBounds(c -> c.ancestor(1, -1)));
        suite.test("promise 24: the dead are of the lines", () ->
                Court.family(-1, -1, 0, -1).does(c -> c.die(0)).answers(0, c -> c.ancestor(1, 0)));
        suite.test("promise 24: all 23 of a line, from the nearest to the farthest", () -> {
            int[] due = new int[23];
            for (int at = 0; at < 23; at++) {
                due[at] = 22 - at;
            }
            ancestorsAre(Court.family(lineOf24(true)), 23, due);
        });
    }

    private static void ancestorsOrder(Suite suite) {
        suite.test("promise 24: by numbers, the mother ahead of the father", () -> {
            Court court = Court.family(-1, -1, -1, -1, 1, 0);
            ancestorsAre(court, 2, 0, 1);
        });
        suite.test("promise 24: by numbers, the father ahead of the mother", () -> {
            Court court = Court.family(-1, -1, -1, -1, 0, 1);
            ancestorsAre(court, 2, 0, 1);
        });
        suite.test("promise 24: by the fewest steps ahead of numbers", () -> {
            Court court = Court.family(-1, -1, 0, -1, 1, -1);
            ancestorsAre(court, 2, 1, 0);
        });
        suite.test("promise 24: among those of as few steps by numbers, from both sides", () -> {
            Court court = Court.family(-1, -1, -1, -1, -1, -1, -1, -1, 1, 3, 0, 2, 4, 5);
            ancestorsAre(court, 6, 4, 5, 0, 1, 2, 3);
        });
        suite.test("promise 24: one to whom two lines go is told once", () -> {
            Court court = Court.family(-1, -1, 0, -1, 0, -1, 1, 2);
            ancestorsAre(court, 3, 1, 2, 0);
        });
        suite.test("promise 24: one to whom two lines go is told by the fewer steps", () -> {
            Court court = Court.family(-1, -1, -1, -1, 0, 1, 2, 0);
            ancestorsAre(court, 3, 0, 2, 1);
        });
    }

    private static void ancestorsAre(Court court, int person, int... due) {
        for (int at = 0; at < due.length; at++) {
            int place = at;
            court.answers(due[place], c -> c.ancestor(person, place));
        }
        court.answers(-1, c -> c.ancestor(person, due.length));
    }
}
