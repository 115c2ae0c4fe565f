/** Promises 8 to 14, and what "Vows" says behind them. */
public final class VowsTest {
    private static final int FULL = 16 * 360;
    private static final int LEAST = 14 * 360;
    private static final Check CHECK = new Check("VowsTest");

    public static void main(String[] args) {
        promise08DispenseAge();
        promise08DispenseKin();
        promise08DispenseOrder();
        promise08DispenseTwice();
        promise08DispenseIsRefused();
        promise09Faculty();
        promise09FacultyOfEachPlaceAndWitness();
        promise10Error();
        promise11Vow();
        promise11AtMost30();
        promise11Age();
        promise11Kin();
        promise11Bond();
        promise12Heal();
        promise13Grace();
        promise14Documents();
        CHECK.finish();
    }

    private static void promise08DispenseAge() {
        VowCourt court = new VowCourt();
        court.person(FULL, -1, -1, 0);
        court.person(LEAST, -1, -1, 0);
        court.person(LEAST - 1, -1, -1, 0);
        court.vow(0, 1, 0, 0);
        CHECK.fails(court, "one day less than 14", Check.STATE, () -> court.dispense(0, 2, VowCourt.AGE));
        CHECK.fails(court, "likewise in the other order", Check.STATE, () -> court.dispense(2, 0, VowCourt.AGE));
        court.dispense(1, 0, VowCourt.AGE);
        CHECK.fails(court, "it was dispensed", Check.STATE, () -> court.dispense(0, 1, VowCourt.AGE));
        CHECK.fails(court, "it was, in the same order", Check.STATE, () -> court.dispense(1, 0, VowCourt.AGE));
        CHECK.is("a vow ahead of it", court.hindered(0), VowCourt.AGE);
        court.documents(0);
        court.vow(0, 1, 0, 0);
        CHECK.is("a vow behind it", court.hindered(1), 0);
        court.documents(1);
        court.vow(1, 0, 0, 0);
        CHECK.is("another one, in the other order", court.hindered(2), 0);
        court.pass(1);
        court.dispense(0, 2, VowCourt.AGE);
        court.vow(1, 2, 0, 0);
        CHECK.is("others are not dispensed", court.hindered(3), VowCourt.AGE + VowCourt.BOND);
        court.pass(2 * 360);
        VowCourt grown = Courts.with(2);
        CHECK.fails(grown, "both are 16", Check.STATE, () -> grown.dispense(0, 1, VowCourt.AGE));
    }

    private static void promise08DispenseKin() {
        VowCourt court = family();
        CHECK.fails(court, "in line, degree 1", Check.STATE, () -> court.dispense(0, 2, VowCourt.KIN));
        CHECK.fails(court, "in line, degree 3", Check.STATE, () -> court.dispense(0, 6, VowCourt.KIN));
        CHECK.fails(court, "degree 2", Check.STATE, () -> court.dispense(2, 3, VowCourt.KIN));
        CHECK.fails(court, "not kin", Check.STATE, () -> court.dispense(0, 1, VowCourt.KIN));
        CHECK.fails(court, "degree 5", Check.STATE, () -> court.dispense(6, 5, VowCourt.KIN));
        court.dispense(3, 4, VowCourt.KIN);
        court.dispense(4, 5, VowCourt.KIN);
        CHECK.fails(court, "degree 4 was", Check.STATE, () -> court.dispense(5, 4, VowCourt.KIN));
        CHECK.is("degree 3 dispensed", court.hindered(court.vow(4, 3, 0, 0)), 0);
        CHECK.is("degree 4 dispensed", court.hindered(court.vow(5, 4, 0, 0)), VowCourt.BOND);
        CHECK.is("degree 2 not", court.hindered(court.vow(2, 3, 0, 0)), VowCourt.KIN + VowCourt.BOND);
    }

    private static void promise08DispenseOrder() {
        VowCourt court = Courts.with(3);
        CHECK.fails(court, "none has taken it", Check.STATE, () -> court.dispense(0, 1, VowCourt.ORDER));
        court.order(1);
        CHECK.fails(court, "none of these has", Check.STATE, () -> court.dispense(0, 2, VowCourt.ORDER));
        court.dispense(0, 1, VowCourt.ORDER);
        CHECK.fails(court, "it was", Check.STATE, () -> court.dispense(1, 0, VowCourt.ORDER));
        CHECK.is("dispensed for both", court.hindered(court.vow(0, 1, 0, 0)), 0);
        court.grace(0);
        CHECK.is("not with another one", court.hindered(court.vow(1, 2, 0, 0)), VowCourt.ORDER);
        court.order(0);
        CHECK.is("for all vows behind that", court.hindered(court.vow(1, 0, 0, 0)), VowCourt.BOND);
        CHECK.fails(court, "it still was", Check.STATE, () -> court.dispense(1, 0, VowCourt.ORDER));
    }

    private static void promise08DispenseTwice() {
        VowCourt court = new VowCourt();
        court.person(LEAST, -1, -1, 0);
        court.person(LEAST, -1, -1, 0);
        court.order(0);
        court.dispense(0, 1, VowCourt.AGE);
        CHECK.is("age alone", court.hindered(court.vow(0, 1, 0, 0)), VowCourt.ORDER);
        court.documents(0);
        court.dispense(0, 1, VowCourt.ORDER);
        CHECK.is("both", court.hindered(court.vow(0, 1, 0, 0)), 0);
        court.documents(1);
        CHECK.is("both, in the other order", court.hindered(court.vow(1, 0, 0, 0)), 0);
    }

    private static void promise08DispenseIsRefused() {
        VowCourt court = Courts.with(2);
        court.order(0);
        CHECK.fails(court, "no person", Check.INDEX, () -> court.dispense(2, 0, VowCourt.ORDER));
        CHECK.fails(court, "no other one", Check.INDEX, () -> court.dispense(0, 2, VowCourt.ORDER));
        CHECK.fails(court, "no person, kind 4", Check.INDEX, () -> court.dispense(2, 0, VowCourt.BOND));
        CHECK.fails(court, "person -1", Check.INDEX, () -> court.dispense(-1, 0, VowCourt.ORDER));
        CHECK.fails(court, "other one -1, kind 0", Check.INDEX, () -> court.dispense(0, -1, 0));
        CHECK.fails(court, "the same", Check.ARGUMENT, () -> court.dispense(0, 0, VowCourt.ORDER));
        for (int kind : new int[] {-1, 0, VowCourt.BOND, 3, 9, 16}) {
            CHECK.fails(court, "kind " + kind, Check.ARGUMENT, () -> court.dispense(0, 1, kind));
        }
        court.dispense(0, 1, VowCourt.ORDER);
    }

    private static void promise09Faculty() {
        VowCourt court = Courts.with(2);
        court.pass(10);
        court.faculty(5, 7, 3);
        CHECK.is("today", lacks(court, 7, 5), 0);
        court.pass(2);
        CHECK.is("the third day", lacks(court, 7, 5), 0);
        court.pass(1);
        CHECK.is("the fourth day", lacks(court, 7, 5), 1);
        court.faculty(5, 7, 10000);
        CHECK.is("anew", lacks(court, 7, 5), 0);
        court.faculty(5, 7, 1);
        CHECK.is("a day in place of it", lacks(court, 7, 5), 0);
        court.faculty(5, 7, 0);
        CHECK.is("no day in place of it", lacks(court, 7, 5), 1);
        court.faculty(5, 7, 2);
        CHECK.is("a vow ahead of it stays", court.vowOf(5, 3), 1);
        CHECK.fails(court, "witness 6", Check.ARGUMENT, () -> court.faculty(6, 0, 1));
        CHECK.fails(court, "witness -1", Check.ARGUMENT, () -> court.faculty(-1, 0, 1));
        CHECK.fails(court, "place 8", Check.ARGUMENT, () -> court.faculty(0, 8, 1));
        CHECK.fails(court, "place -1", Check.ARGUMENT, () -> court.faculty(0, -1, 1));
        CHECK.fails(court, "days -1", Check.ARGUMENT, () -> court.faculty(5, 7, -1));
        CHECK.fails(court, "days 10001", Check.ARGUMENT, () -> court.faculty(5, 7, 10001));
        CHECK.is("as ahead of refusals", lacks(court, 7, 5), 0);
    }

    private static void promise09FacultyOfEachPlaceAndWitness() {
        VowCourt court = Courts.with(2);
        court.faculty(2, 4, 5);
        CHECK.is("another witness", lacks(court, 4, 3), 1);
        CHECK.is("another place", lacks(court, 3, 2), 1);
        CHECK.is("witness and place the other way", lacks(court, 2, 4), 1);
        CHECK.is("both", lacks(court, 4, 2), 0);
        court.faculty(3, 4, 5);
        CHECK.is("the first keeps it", lacks(court, 4, 2), 0);
    }

    private static void promise10Error() {
        VowCourt court = Courts.with(2);
        CHECK.is("an error", court.error(7), true);
        CHECK.is("the form by it", lacks(court, 7, 5), 0);
        CHECK.is("not at another place", lacks(court, 6, 5), 1);
        CHECK.is("its end", court.error(7), false);
        CHECK.is("the vow keeps the form", court.vowOf(0, 3), 0);
        CHECK.is("no form behind it", lacks(court, 7, 5), 1);
        CHECK.is("another error", court.error(0), true);
        CHECK.is("the other vow stays without", court.vowOf(1, 3), 1);
        CHECK.fails(court, "place 8", Check.ARGUMENT, () -> court.error(8));
        CHECK.fails(court, "place -1", Check.ARGUMENT, () -> court.error(-1));
    }

    private static void promise11Vow() {
        VowCourt court = Courts.with(3);
        court.pass(4);
        CHECK.is("the first", court.vow(0, 1, 7, 5), 0);
        CHECK.is("the second", court.vow(1, 0, 0, 0), 1);
        CHECK.is("it stands", court.vowOf(0, 0), VowCourt.STANDS);
        CHECK.is("of today", court.vowOf(0, 1), 4);
        CHECK.is("its place", court.vowOf(0, 4), 7);
        CHECK.fails(court, "no person", Check.INDEX, () -> court.vow(3, 0, 0, 0));
        CHECK.fails(court, "no other one, no place", Check.INDEX, () -> court.vow(0, 3, 8, 0));
        CHECK.fails(court, "person -1", Check.INDEX, () -> court.vow(-1, 0, 0, 0));
        CHECK.fails(court, "other one -1", Check.INDEX, () -> court.vow(0, -1, 0, 0));
        CHECK.fails(court, "the same", Check.ARGUMENT, () -> court.vow(2, 2, 0, 0));
        CHECK.fails(court, "place 8", Check.ARGUMENT, () -> court.vow(0, 1, 8, 0));
        CHECK.fails(court, "place -1", Check.ARGUMENT, () -> court.vow(0, 1, -1, 0));
        CHECK.fails(court, "witness 6", Check.ARGUMENT, () -> court.vow(0, 1, 0, 6));
        CHECK.fails(court, "witness -1", Check.ARGUMENT, () -> court.vow(0, 1, 0, -1));
        court.ban(2);
        CHECK.fails(court, "banned, and no place", Check.ARGUMENT, () -> court.vow(0, 2, 8, 0));
        CHECK.fails(court, "banned", Check.STATE, () -> court.vow(0, 2, 0, 0));
    }

    private static void promise11AtMost30() {
        VowCourt court = Courts.with(2);
        for (int number = 0; number < 30; number++) {
            CHECK.is("vow " + number, court.vow(0, 1, 0, 0), number);
        }
        CHECK.fails(court, "a 31st", Check.STATE, () -> court.vow(0, 1, 0, 0));
        CHECK.fails(court, "a 31st at no place", Check.ARGUMENT, () -> court.vow(0, 1, 8, 0));
        CHECK.is("the last is hindered", court.hindered(29), VowCourt.BOND);
    }

    private static void promise11Age() {
        VowCourt court = new VowCourt();
        court.person(FULL, -1, -1, 0);
        court.person(FULL - 1, -1, -1, 0);
        court.person(36000, -1, -1, 0);
        CHECK.is("16 on this day", court.hindered(court.vow(0, 2, 0, 0)), 0);
        court.documents(0);
        CHECK.is("a day less", court.hindered(court.vow(1, 2, 0, 0)), VowCourt.AGE);
        CHECK.is("a day less, the other one", court.hindered(court.vow(2, 1, 0, 0)), VowCourt.AGE + VowCourt.BOND);
        court.documents(1);
        court.documents(2);
        court.pass(1);
        CHECK.is("on the next day", court.hindered(court.vow(2, 1, 0, 0)), 0);
        CHECK.is("the earlier vow is hindered still", court.hindered(1), VowCourt.AGE);
        court.pass(FULL);
        int told = court.person(FULL - 1, -1, -1, 0);
        CHECK.is("an age on a later day", court.hindered(court.vow(told, 0, 0, 0)) & VowCourt.AGE, VowCourt.AGE);
        court.pass(1);
        CHECK.is("a day behind it", court.hindered(court.vow(told, 0, 0, 0)) & VowCourt.AGE, 0);
        CHECK.is("born just now", court.hindered(court.vow(2, court.person(0, -1, -1, 0), 0, 0)) & VowCourt.AGE,
                VowCourt.AGE);
    }

    private static void promise11Kin() {
        VowCourt court = family();
        CHECK.is("degree 4", court.hindered(court.vow(4, 5, 0, 0)), VowCourt.KIN);
        CHECK.is("not kin", court.hindered(court.vow(0, 1, 0, 0)), 0);
        CHECK.is("degree 5", court.hindered(court.vow(6, 5, 0, 0)) & VowCourt.KIN, 0);
        VowCourt line = new VowCourt();
        line.person(36000, -1, -1, 0);
        for (int number = 1; number < 24; number++) {
            line.person(Courts.GROWN, number - 1, -1, 0);
        }
        CHECK.is("in line, degree 5", line.hindered(line.vow(5, 0, 0, 0)), VowCourt.KIN);
        CHECK.is("in line, degree 23", line.hindered(line.vow(0, 23, 0, 0)) & VowCourt.KIN, VowCourt.KIN);
    }

    private static void promise11Bond() {
        VowCourt court = Courts.with(4);
        court.pass(5);
        court.vow(0, 1, 0, 0);
        court.pass(5);
        court.vow(1, 2, 0, 0);
        court.vow(3, 0, 0, 0);
        CHECK.is("none ahead of it", court.hindered(0), 0);
        CHECK.is("the first one was bound", court.hindered(1), VowCourt.BOND);
        CHECK.is("the other one was bound", court.hindered(2), VowCourt.BOND);
        court.grace(0);
        CHECK.is("dissolved on that day", court.hindered(1), 0);
        court.vow(2, 3, 0, 0);
        court.pass(1);
        court.die(2);
        CHECK.is("ended on a later day", court.hindered(3), VowCourt.BOND);
        court.documents(1);
        CHECK.is("null, but bound by another one", court.hindered(3), VowCourt.BOND);
        court.documents(2);
        CHECK.is("both null", court.hindered(3), 0);
    }

    private static void promise12Heal() {
        VowCourt court = Courts.withVow(3);
        court.vow(0, 2, 0, 0);
        CHECK.fails(court, "hindered", Check.STATE, () -> court.heal(1));
        court.heal(0);
        CHECK.is("healed", court.vowOf(0, 3), 0);
        CHECK.is("it stands", court.vowOf(0, 0), VowCourt.STANDS);
        CHECK.fails(court, "again", Check.STATE, () -> court.heal(0));
        court.grace(0);
        court.heal(1);
        CHECK.is("healed as the bond was found away", court.vowOf(1, 3), 0);
        court.rite(0, 1);
        court.rite(2, 1);
        court.grace(1);
        court.vow(0, 2, 0, 0);
        CHECK.fails(court, "it needs no form", Check.STATE, () -> court.heal(2));
        VowCourt other = Courts.withVow(4);
        other.vow(2, 3, 0, 0);
        other.die(1);
        CHECK.fails(other, "ended", Check.STATE, () -> other.heal(0));
        other.grace(1);
        CHECK.fails(other, "dissolved", Check.STATE, () -> other.heal(1));
        other.documents(0);
        CHECK.fails(other, "null", Check.STATE, () -> other.heal(0));
        CHECK.fails(other, "no vow", Check.INDEX, () -> other.heal(2));
        CHECK.fails(other, "vow -1", Check.INDEX, () -> other.heal(-1));
        VowCourt inCourt = Courts.withCause(2);
        inCourt.heal(0);
        CHECK.is("healed with a cause open", inCourt.vowOf(0, 3), 0);
    }

    private static void promise13Grace() {
        VowCourt court = Courts.withVow(4);
        court.pass(9);
        court.grace(0);
        CHECK.is("dissolved", court.vowOf(0, 0), VowCourt.DISSOLVED);
        CHECK.is("today", court.vowOf(0, 2), 9);
        CHECK.is("bound a day ahead of it", court.bound(0, 8), 0);
        CHECK.is("free from that day on", court.bound(0, 9), -1);
        CHECK.fails(court, "again", Check.STATE, () -> court.grace(0));
        court.vow(0, 1, 0, 0);
        court.documents(1);
        CHECK.fails(court, "null", Check.STATE, () -> court.grace(1));
        court.vow(2, 3, 0, 0);
        court.cause(2, 0, 1, true);
        CHECK.fails(court, "with a cause open", Check.STATE, () -> court.grace(2));
        court.publish(0);
        CHECK.fails(court, "with a cause published", Check.STATE, () -> court.grace(2));
        Courts.judgePublished(court, 0, 0);
        court.grace(2);
        CHECK.is("with a cause refused", court.vowOf(2, 0), VowCourt.DISSOLVED);
        court.vow(2, 3, 0, 0);
        court.die(3);
        CHECK.fails(court, "ended", Check.STATE, () -> court.grace(3));
        CHECK.fails(court, "no vow", Check.INDEX, () -> court.grace(4));
        CHECK.fails(court, "vow -1", Check.INDEX, () -> court.grace(-1));
    }

    private static void promise14Documents() {
        VowCourt court = Courts.with(4);
        court.faculty(0, 0, 10000);
        court.vow(0, 1, 0, 0);
        CHECK.fails(court, "nothing hinders it", Check.STATE, () -> court.documents(0));
        court.order(0);
        court.vow(0, 2, 0, 0);
        court.vow(0, 3, 0, 1);
        court.cause(1, 0, 1, false);
        CHECK.fails(court, "with a cause open", Check.STATE, () -> court.documents(1));
        Courts.judge(court, 0, 0);
        court.pass(6);
        CHECK.is("what hinders it", court.documents(1), VowCourt.BOND + VowCourt.ORDER);
        CHECK.is("null", court.vowOf(1, 0), VowCourt.NULL);
        CHECK.is("found today", court.vowOf(1, 2), 6);
        CHECK.is("never bound", court.bound(2, 3), -1);
        CHECK.fails(court, "again", Check.STATE, () -> court.documents(1));
        court.die(3);
        court.pass(2);
        CHECK.is("one that has ended", court.documents(2), VowCourt.BOND + VowCourt.ORDER + 16);
        CHECK.is("found then", court.vowOf(2, 2), 8);
        court.vow(1, 2, 0, 1);
        court.grace(3);
        CHECK.fails(court, "dissolved", Check.STATE, () -> court.documents(3));
        CHECK.fails(court, "no vow", Check.INDEX, () -> court.documents(4));
        CHECK.fails(court, "vow -1", Check.INDEX, () -> court.documents(-1));
        VowCourt formless = Courts.withVow(2);
        CHECK.is("the form alone", formless.documents(0), 16);
    }

    /** 0 and 1 are not kin; 2 is of both, 3 of 0; 4 of 2, 5 of 3; 6 of 4. All are grown. */
    private static VowCourt family() {
        VowCourt court = new VowCourt();
        court.person(20000, -1, -1, 0);
        court.person(20000, -1, -1, 0);
        court.person(12000, 0, 1, 0);
        court.person(12000, 0, -1, 0);
        court.person(8000, 2, -1, 0);
        court.person(8000, -1, 3, 0);
        court.person(7000, 4, -1, 0);
        return court;
    }

    /** Whether a vow of today of 0 and 1 lacks its form. */
    private static int lacks(VowCourt court, int place, int witness) {
        return court.vowOf(court.vow(0, 1, place, witness), 3);
    }
}
