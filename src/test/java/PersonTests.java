/** Promises 2 to 7, and what "Persons, kin" says of persons. */
final class PersonTests {
    private PersonTests() {
    }

    static void tell(Suite suite) {
        person(suite);
        personIsRefused(suite);
        parents(suite);
        rite(suite);
        home(suite);
        order(suite);
        ban(suite);
        die(suite);
        dieEnds(suite);
    }

    private static void person(Suite suite) {
        suite.test("promise 2: persons are numbered from 0, one behind the other", () -> {
            Court court = new Court();
            for (int at = 0; at < 24; at++) {
                int number = at;
                court.answers(number, c -> c.person(0, -1, -1, 0));
            }
        });
        suite.test("promise 2: age 0 is born today, and 16 years old behind 5760 days", () ->
                Court.of(1).does(c -> c.person(0, -1, -1, 0)).does(c -> c.pass(5759))
                        .does(c -> c.vow(0, 1, 0, 0)).answers(VowCourt.AGE, c -> c.hindered(0))
                        .does(c -> c.documents(0)).does(c -> c.pass(1))
                        .does(c -> c.vow(0, 1, 0, 0)).answers(0, c -> c.hindered(1)));
        suite.test("promise 2: age 36000 is born far ahead of the day 0", () ->
                Court.of(1).answers(1, c -> c.person(36000, -1, -1, 0))
                        .does(c -> c.vow(0, 1, 0, 0)).answers(0, c -> c.hindered(0)));
        suite.test("promise 2: the age is the one of the day on which a person is told", () ->
                Court.of(1).does(c -> c.pass(7000)).does(c -> c.person(5759, -1, -1, 0))
                        .does(c -> c.vow(0, 1, 0, 0)).answers(VowCourt.AGE, c -> c.hindered(0))
                        .does(c -> c.documents(0)).does(c -> c.pass(1))
                        .does(c -> c.vow(0, 1, 0, 0)).answers(0, c -> c.hindered(1)));
        suite.test("promise 2: the home is the one that was told", () -> {
            for (int at = 0; at < 8; at++) {
                int place = at;
                Court.of(0).does(c -> c.person(0, -1, -1, place)).answers(place, c -> c.home(0, 3));
            }
        });
        suite.test("promise 2: a person is free at first", () ->
                Court.of(1).answers(-1, c -> c.bound(0, 0)).reads("free", 0, 0));
    }

    private static void personIsRefused(Suite suite) {
        suite.test("promise 2: a 25th person would be more than told", () ->
                Court.of(24).illegalState(c -> c.person(0, -1, -1, 0)));
        suite.test("promise 2: a 25th person would be more than told, also a child", () ->
                Court.of(24).illegalState(c -> c.person(0, 22, 23, 0)));
        suite.test("promise 2: the dead are among the 24 persons", () ->
                Court.of(24).does(c -> c.die(5)).illegalState(c -> c.person(0, -1, -1, 0)));
        suite.test("promise 2: a refused person takes no number", () ->
                Court.of(3).illegalArgument(c -> c.person(-1, -1, -1, 0)).outOfBounds(c -> c.person(0, 3, -1, 0))
                        .answers(3, c -> c.person(0, -1, -1, 0)));
        suite.test("promise 2: father and mother are the same person", () ->
                Court.of(2).illegalArgument(c -> c.person(0, 1, 1, 0)));
        suite.test("promise 2: father and mother are the same person 0", () ->
                Court.of(2).illegalArgument(c -> c.person(0, 0, 0, 0)));
        suite.test("promise 2: neither father nor mother is not the same person", () ->
                Court.of(2).answers(2, c -> c.person(0, -1, -1, 0)));
        suite.test("promise 2: nobody is the own father", () -> Court.of(2).outOfBounds(c -> c.person(0, 2, -1, 0)));
        suite.test("promise 2: nobody is the own mother", () -> Court.of(2).outOfBounds(c -> c.person(0, -1, 2, 0)));
        suite.test("promise 2: the first person has no father", () ->
                new Court().outOfBounds(c -> c.person(0, 0, -1, 0)));
        suite.test("promise 2: the first person has no mother", () ->
                new Court().outOfBounds(c -> c.person(0, -1, 0, 0)));
    }

    private static void parents(Suite suite) {
        suite.test("promise 2: a father alone", () ->
                Court.family(-1, -1, -1, -1, 0, -1).answers(101, c -> c.kin(2, 0)).answers(-1, c -> c.kin(2, 1)));
        suite.test("promise 2: a mother alone", () ->
                Court.family(-1, -1, -1, -1, -1, 1).answers(101, c -> c.kin(2, 1)).answers(-1, c -> c.kin(2, 0)));
        suite.test("promise 2: a father and a mother", () ->
                Court.family(-1, -1, -1, -1, 1, 0).answers(101, c -> c.kin(2, 0)).answers(101, c -> c.kin(2, 1)));
        suite.test("promise 2: neither father nor mother", () ->
                Court.family(-1, -1, -1, -1).answers(-1, c -> c.kin(0, 1)).answers(-1, c -> c.ancestor(1, 0)));
        suite.test("promise 2: the last person there is may be a parent", () ->
                Court.of(23).answers(23, c -> c.person(0, 22, 21, 0)).answers(101, c -> c.kin(23, 22)));
        suite.test("promise 2: the dead may be parents", () ->
                Court.of(2).does(c -> c.die(0)).does(c -> c.die(1)).answers(2, c -> c.person(0, 0, 1, 0))
                        .answers(101, c -> c.kin(0, 2)));
        suite.test("promise 2: nothing is asked about the ages of parents", () ->
                Court.aged(0, 0).answers(2, c -> c.person(36000, 0, 1, 0)));
        suite.test("promise 2: a mother may be a father too", () ->
                Court.of(3).does(c -> c.person(0, 0, 1, 0)).answers(4, c -> c.person(0, 1, 2, 0))
                        .answers(200, c -> c.kin(3, 4)));
    }

    private static void rite(Suite suite) {
        suite.test("promise 3: the rite is 0 at first", () -> Court.of(1).answers(0, c -> c.rite(0, 2)));
        suite.test("promise 3: it returns what the rite was", () ->
                Court.of(1).does(c -> c.rite(0, 2)).answers(2, c -> c.rite(0, 1)).answers(1, c -> c.rite(0, 0))
                        .answers(0, c -> c.rite(0, 0)));
        suite.test("promise 3: the rite is of that person alone", () ->
                Court.of(3).does(c -> c.rite(1, 2)).answers(0, c -> c.rite(0, 1)).answers(0, c -> c.rite(2, 1))
                        .answers(2, c -> c.rite(1, 1)));
        suite.test("promise 3: a refused rite leaves what it was", () ->
                Court.of(1).does(c -> c.rite(0, 1)).illegalArgument(c -> c.rite(0, 3)).answers(1, c -> c.rite(0, 1)));
        suite.test("promise 3: for vows from now on: a vow ahead keeps its need of the form", () ->
                Court.vowed().does(c -> c.rite(0, 1)).does(c -> c.rite(1, 1)).answers(1, c -> c.vowOf(0, 3)));
        suite.test("promise 3: for vows from now on: a vow ahead comes to no need of the form", () ->
                Court.of(2).does(c -> c.rite(0, 1)).does(c -> c.rite(1, 2)).does(c -> c.vow(0, 1, 0, 0))
                        .does(c -> c.rite(0, 0)).does(c -> c.rite(1, 0)).answers(0, c -> c.vowOf(0, 3)));
        suite.test("promise 3: for vows from now on: a vow on the same day behind it", () ->
                Court.vowed().does(c -> c.rite(0, 1)).does(c -> c.rite(1, 1)).does(c -> c.vow(0, 1, 3, 0))
                        .answers(0, c -> c.vowOf(1, 3)));
        suite.test("promise 3: the rite of the dead may be set", () ->
                Court.of(1).does(c -> c.rite(0, 2)).does(c -> c.die(0)).answers(2, c -> c.rite(0, 1)));
    }

    private static void home(Suite suite) {
        suite.test("promise 4: it returns what the home was", () ->
                Court.of(3).answers(2, c -> c.home(2, 7)).answers(7, c -> c.home(2, 0)).answers(0, c -> c.home(2, 0)));
        suite.test("promise 4: the home is of that person alone", () ->
                Court.of(3).does(c -> c.home(1, 7)).answers(0, c -> c.home(0, 0)).answers(2, c -> c.home(2, 2)));
        suite.test("promise 4: a refused home leaves what it was", () ->
                Court.of(3).illegalArgument(c -> c.home(2, 8)).answers(2, c -> c.home(2, 2)));
        suite.test("promise 4: the new home has the causes of vows from long ago", () ->
                Court.vowed().does(c -> c.pass(10)).does(c -> c.home(0, 6)).says(true, c -> c.hasCause(0, 6))
                        .says(false, c -> c.hasCause(0, 0)));
        suite.test("promise 4: the home of the dead may be set", () ->
                Court.of(3).does(c -> c.die(2)).answers(2, c -> c.home(2, 5)).answers(5, c -> c.home(2, 5)));
        suite.test("promise 4: a home moves no vow", () ->
                Court.vowed().does(c -> c.home(0, 6)).does(c -> c.home(1, 6)).answers(3, c -> c.vowOf(0, 4)));
    }

    private static void order(Suite suite) {
        suite.test("promise 5: from now on: a vow behind it on the same day is hindered", () ->
                Court.of(2).does(c -> c.order(0)).does(c -> c.vow(0, 1, 0, 0))
                        .answers(VowCourt.ORDER, c -> c.hindered(0)));
        suite.test("promise 5: from now on: a vow ahead of it on the same day is not", () ->
                Court.vowed().does(c -> c.order(0)).answers(0, c -> c.hindered(0)));
        suite.test("promise 5: the order is taken once", () ->
                Court.of(2).does(c -> c.order(0)).illegalState(c -> c.order(0)));
        suite.test("promise 5: the order is taken once, also days later", () ->
                Court.of(2).does(c -> c.order(0)).does(c -> c.pass(10000)).illegalState(c -> c.order(0)));
        suite.test("promise 5: the dead do not take it", () ->
                Court.of(2).does(c -> c.die(0)).illegalState(c -> c.order(0)));
        suite.test("promise 5: a refused order of the dead hinders nothing", () ->
                Court.of(2).does(c -> c.die(0)).illegalState(c -> c.order(0))
                        .illegalState(c -> c.dispense(0, 1, VowCourt.ORDER)));
        suite.test("promise 5: the dead who had taken it do not take it", () ->
                Court.of(2).does(c -> c.order(0)).does(c -> c.die(0)).illegalState(c -> c.order(0)));
        suite.test("promise 5: each takes it alone", () ->
                Court.of(3).does(c -> c.order(0)).does(c -> c.order(1)).does(c -> c.order(2))
                        .illegalState(c -> c.order(1)));
        suite.test("promise 5: the bound may take it, and their vow stands", () ->
                Court.vowed().does(c -> c.order(0)).vowIs(0, VowCourt.STANDS, -1));
        suite.test("promise 5: the banned may take it", () ->
                Court.of(2).does(c -> c.ban(0)).does(c -> c.order(0)).illegalState(c -> c.order(0)));
    }

    private static void ban(Suite suite) {
        suite.test("promise 6: the first ban bans", () -> Court.of(1).says(true, c -> c.ban(0)));
        suite.test("promise 6: the second one ends it", () ->
                Court.of(1).does(c -> c.ban(0)).says(false, c -> c.ban(0)));
        suite.test("promise 6: the third one bans again", () ->
                Court.of(1).does(c -> c.ban(0)).does(c -> c.ban(0)).says(true, c -> c.ban(0)));
        suite.test("promise 6: the first of both is banned from a vow", () ->
                Court.of(2).does(c -> c.ban(0)).illegalState(c -> c.vow(0, 1, 0, 0)));
        suite.test("promise 6: the other of both is banned from a vow", () ->
                Court.of(2).does(c -> c.ban(1)).illegalState(c -> c.vow(0, 1, 0, 0)));
        suite.test("promise 6: not any more banned, a vow is possible", () ->
                Court.of(2).does(c -> c.ban(0)).does(c -> c.ban(0)).answers(0, c -> c.vow(0, 1, 0, 0)));
        suite.test("promise 6: others are not banned", () ->
                Court.of(3).does(c -> c.ban(1)).answers(0, c -> c.vow(0, 2, 0, 0)));
        suite.test("promise 6: a ban stays as days pass", () ->
                Court.of(2).does(c -> c.ban(0)).does(c -> c.pass(10000)).illegalState(c -> c.vow(0, 1, 0, 0)));
        suite.test("promise 6: a ban is from vows to come: a vow ahead of it stands", () ->
                Court.vowed().does(c -> c.ban(0)).vowIs(0, VowCourt.STANDS, -1).answers(0, c -> c.hindered(0)));
        suite.test("promise 6: a ban is from vows: the banned may be dispensed", () ->
                Court.of(2).does(c -> c.order(0)).does(c -> c.ban(0)).does(c -> c.dispense(0, 1, VowCourt.ORDER))
                        .does(c -> c.ban(0)).does(c -> c.vow(0, 1, 0, 0)).answers(0, c -> c.hindered(0)));
        suite.test("promise 6: the dead may be banned", () ->
                Court.of(1).does(c -> c.die(0)).says(true, c -> c.ban(0)).says(false, c -> c.ban(0)));
    }

    private static void die(Suite suite) {
        suite.test("promise 7: a death without vows ends none", () -> Court.of(1).answers(0, c -> c.die(0)));
        suite.test("promise 7: a person dies once", () ->
                Court.of(1).does(c -> c.die(0)).illegalState(c -> c.die(0)));
        suite.test("promise 7: a person dies once, also days later", () ->
                Court.of(1).does(c -> c.die(0)).does(c -> c.pass(1)).illegalState(c -> c.die(0)));
        suite.test("promise 7: the dead do not vow as the first of both", () ->
                Court.of(2).does(c -> c.die(0)).illegalState(c -> c.vow(0, 1, 0, 0)));
        suite.test("promise 7: the dead do not vow as the other of both", () ->
                Court.of(2).does(c -> c.die(1)).illegalState(c -> c.vow(0, 1, 0, 0)));
        suite.test("promise 7: the others live", () ->
                Court.of(4).does(c -> c.die(1)).answers(0, c -> c.vow(0, 2, 0, 0)).answers(1, c -> c.die(0)));
    }

    private static void dieEnds(Suite suite) {
        suite.test("promise 7: it tells how many vows are ENDED", () ->
                Court.vowed().does(c -> c.vow(2, 0, 0, 0)).does(c -> c.vow(0, 3, 0, 0)).answers(3, c -> c.die(0)));
        suite.test("promise 7: today: the vow is ENDED on the day of the death", () ->
                Court.vowed().does(c -> c.pass(20)).answers(1, c -> c.die(0)).vowIs(0, VowCourt.ENDED, 20));
        suite.test("promise 7: the death of the other of both ends a vow", () ->
                Court.vowed().does(c -> c.pass(20)).answers(1, c -> c.die(1)).vowIs(0, VowCourt.ENDED, 20));
        suite.test("promise 7: the first of both ends it, and the second death ends nothing", () ->
                Court.vowed().does(c -> c.pass(3)).does(c -> c.die(1)).does(c -> c.pass(4))
                        .answers(0, c -> c.die(0)).vowIs(0, VowCourt.ENDED, 3));
        suite.test("promise 7: it ends a vow of the same day", () ->
                Court.vowed().answers(1, c -> c.die(0)).vowIs(0, VowCourt.ENDED, 0));
        suite.test("promise 7: a vow of others stands", () ->
                Court.vowed().does(c -> c.vow(2, 3, 0, 0)).answers(1, c -> c.die(0)).vowIs(1, VowCourt.STANDS, -1));
        suite.test("promise 7: a DISSOLVED vow is not ENDED", () ->
                Court.vowed().does(c -> c.pass(2)).does(c -> c.grace(0)).does(c -> c.pass(2))
                        .answers(0, c -> c.die(0)).vowIs(0, VowCourt.DISSOLVED, 2));
        suite.test("promise 7: a NULL vow is not ENDED", () ->
                Court.vowed().does(c -> c.pass(2)).does(c -> c.documents(0)).does(c -> c.pass(2))
                        .answers(0, c -> c.die(0)).vowIs(0, VowCourt.NULL, 2));
        suite.test("promise 7: an ENDED vow is not counted again", () ->
                Court.vowed().does(c -> c.vow(1, 2, 0, 0)).answers(1, c -> c.die(0)).answers(1, c -> c.die(1))
                        .answers(0, c -> c.die(2)));
        suite.test("promise 7: a hindered vow is ENDED too", () ->
                Court.of(2).does(c -> c.order(0)).does(c -> c.vow(0, 1, 0, 0)).answers(1, c -> c.die(0)));
        suite.test("promise 7: a vow in court is ENDED, and its cause goes on", () ->
                Court.inCause(2).answers(1, c -> c.die(0)).causeIs(0, VowCourt.OPEN, 1).answers(2, c -> c.publish(0)));
    }
}
