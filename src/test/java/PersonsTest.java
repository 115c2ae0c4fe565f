/** Promises 2 to 7. */
public final class PersonsTest {
    private static final Check CHECK = new Check("PersonsTest");

    public static void main(String[] args) {
        promise02Person();
        promise02PersonIsRefused();
        promise02AtMost24();
        promise03Rite();
        promise04Home();
        promise05Order();
        promise06Ban();
        promise07Die();
        promise07DieOfBoth();
        CHECK.finish();
    }

    private static void promise02Person() {
        VowCourt court = new VowCourt();
        CHECK.is("the first", court.person(0, -1, -1, 0), 0);
        CHECK.is("the second", court.person(36000, -1, -1, 7), 1);
        CHECK.is("a child of both", court.person(36000, 0, 1, 7), 2);
        CHECK.is("a child of a father", court.person(5, 2, -1, 0), 3);
        CHECK.is("a child of a mother", court.person(5, -1, 2, 0), 4);
        CHECK.is("kin by the father", court.kin(3, 2), 101);
        CHECK.is("kin by the mother", court.kin(4, 2), 101);
        court.die(0);
        CHECK.is("a child of the dead", court.person(5, 0, -1, 0), 5);
        CHECK.is("its kin", court.kin(5, 0), 101);
    }

    private static void promise02PersonIsRefused() {
        VowCourt court = Courts.with(2);
        CHECK.fails(court, "no father 2", Check.INDEX, () -> court.person(0, 2, -1, 0));
        CHECK.fails(court, "no mother 2", Check.INDEX, () -> court.person(0, -1, 2, 0));
        CHECK.fails(court, "no father -2", Check.INDEX, () -> court.person(0, -2, -1, 0));
        CHECK.fails(court, "no mother -2", Check.INDEX, () -> court.person(0, -1, -2, 0));
        CHECK.fails(court, "no father, nor age", Check.INDEX, () -> court.person(-1, 2, -1, 0));
        CHECK.fails(court, "both are one, but none is there", Check.INDEX, () -> court.person(0, 2, 2, 0));
        CHECK.fails(court, "both are one", Check.ARGUMENT, () -> court.person(0, 1, 1, 0));
        CHECK.fails(court, "age -1", Check.ARGUMENT, () -> court.person(-1, -1, -1, 0));
        CHECK.fails(court, "age 36001", Check.ARGUMENT, () -> court.person(36001, -1, -1, 0));
        CHECK.fails(court, "home -1", Check.ARGUMENT, () -> court.person(0, -1, -1, -1));
        CHECK.fails(court, "home 8", Check.ARGUMENT, () -> court.person(0, -1, -1, 8));
    }

    private static void promise02AtMost24() {
        VowCourt court = Courts.with(23);
        CHECK.is("the 24th", court.person(0, 22, 21, 0), 23);
        CHECK.fails(court, "a 25th", Check.STATE, () -> court.person(0, -1, -1, 0));
        CHECK.fails(court, "a 25th, of none", Check.INDEX, () -> court.person(0, 24, -1, 0));
        CHECK.fails(court, "a 25th, with no home", Check.ARGUMENT, () -> court.person(0, -1, -1, 8));
    }

    private static void promise03Rite() {
        VowCourt court = Courts.with(3);
        CHECK.is("the rite at first", court.rite(0, 2), 0);
        CHECK.is("what it was", court.rite(0, 1), 2);
        court.vow(0, 1, 0, 0);
        CHECK.is("one of both is of the rite 0", court.vowOf(0, 3), 1);
        court.rite(1, 1);
        CHECK.is("the vow keeps its need", court.vowOf(0, 3), 1);
        court.vow(1, 0, 0, 0);
        CHECK.is("none is of the rite 0", court.vowOf(1, 3), 0);
        court.rite(0, 0);
        CHECK.is("the vow needs none later", court.vowOf(1, 3), 0);
        court.vow(0, 1, 0, 0);
        CHECK.is("the first one is of the rite 0", court.vowOf(2, 3), 1);
        court.die(0);
        CHECK.is("the rite of the dead", court.rite(0, 0), 0);
        CHECK.fails(court, "no person", Check.INDEX, () -> court.rite(3, 3));
        CHECK.fails(court, "person -1", Check.INDEX, () -> court.rite(-1, 0));
        CHECK.fails(court, "rite 3", Check.ARGUMENT, () -> court.rite(0, 3));
        CHECK.fails(court, "rite -1", Check.ARGUMENT, () -> court.rite(0, -1));
        CHECK.is("the rite behind refusals", court.rite(0, 1), 0);
    }

    private static void promise04Home() {
        VowCourt court = Courts.withVow(2);
        CHECK.is("the home at first", court.home(1, 7), 1);
        CHECK.is("what it was", court.home(1, 5), 7);
        CHECK.is("the court moves along", court.hasCause(0, 5), true);
        CHECK.is("the old home has it no more", court.hasCause(0, 7), false);
        CHECK.fails(court, "no person", Check.INDEX, () -> court.home(2, 8));
        CHECK.fails(court, "person -1", Check.INDEX, () -> court.home(-1, 0));
        CHECK.fails(court, "home 8", Check.ARGUMENT, () -> court.home(0, 8));
        CHECK.fails(court, "home -1", Check.ARGUMENT, () -> court.home(0, -1));
        court.die(1);
        CHECK.is("the home of the dead", court.home(1, 0), 5);
    }

    private static void promise05Order() {
        VowCourt court = Courts.with(3);
        court.vow(0, 1, 0, 0);
        court.order(0);
        CHECK.is("the vow ahead of the order", court.hindered(0), 0);
        court.documents(0);
        court.vow(0, 1, 0, 0);
        CHECK.is("the first one has taken it", court.hindered(1), VowCourt.ORDER);
        court.documents(1);
        court.vow(1, 0, 0, 0);
        CHECK.is("the second one has taken it", court.hindered(2), VowCourt.ORDER);
        CHECK.fails(court, "again", Check.STATE, () -> court.order(0));
        court.die(2);
        CHECK.fails(court, "dead", Check.STATE, () -> court.order(2));
        CHECK.fails(court, "no person", Check.INDEX, () -> court.order(3));
        CHECK.fails(court, "person -1", Check.INDEX, () -> court.order(-1));
    }

    private static void promise06Ban() {
        VowCourt court = Courts.with(2);
        CHECK.is("banned", court.ban(1), true);
        CHECK.fails(court, "a vow of the banned", Check.STATE, () -> court.vow(0, 1, 0, 0));
        CHECK.fails(court, "a vow with the banned", Check.STATE, () -> court.vow(1, 0, 0, 0));
        CHECK.is("not any more", court.ban(1), false);
        CHECK.is("a vow then", court.vow(0, 1, 0, 0), 0);
        CHECK.is("banned again", court.ban(1), true);
        CHECK.is("a ban leaves the vow", court.vowOf(0, 0), VowCourt.STANDS);
        court.die(1);
        CHECK.is("a ban of the dead", court.ban(1), false);
        CHECK.fails(court, "no person", Check.INDEX, () -> court.ban(2));
        CHECK.fails(court, "person -1", Check.INDEX, () -> court.ban(-1));
    }

    private static void promise07Die() {
        VowCourt court = Courts.with(4);
        court.vow(0, 1, 0, 0);
        court.vow(2, 0, 0, 0);
        court.vow(0, 3, 0, 0);
        court.vow(1, 2, 0, 0);
        court.vow(0, 2, 0, 0);
        court.grace(2);
        court.documents(4);
        court.pass(20);
        CHECK.is("vows that stood", court.die(0), 2);
        CHECK.is("the first ended", court.vowOf(0, 0), VowCourt.ENDED);
        CHECK.is("on the day", court.vowOf(0, 2), 20);
        CHECK.is("the second ended", court.vowOf(1, 0), VowCourt.ENDED);
        CHECK.is("the dissolved one stays", court.vowOf(2, 0), VowCourt.DISSOLVED);
        CHECK.is("of its day", court.vowOf(2, 2), 0);
        CHECK.is("one of others stays", court.vowOf(3, 0), VowCourt.STANDS);
        CHECK.is("the null one stays", court.vowOf(4, 0), VowCourt.NULL);
        CHECK.fails(court, "again", Check.STATE, () -> court.die(0));
        CHECK.fails(court, "a vow of the dead", Check.STATE, () -> court.vow(0, 3, 0, 0));
        CHECK.fails(court, "a vow with the dead", Check.STATE, () -> court.vow(3, 0, 0, 0));
        CHECK.fails(court, "no person", Check.INDEX, () -> court.die(4));
        CHECK.fails(court, "person -1", Check.INDEX, () -> court.die(-1));
    }

    private static void promise07DieOfBoth() {
        VowCourt court = Courts.withVow(3);
        court.pass(3);
        CHECK.is("the second one dies", court.die(1), 1);
        court.pass(3);
        CHECK.is("the first one dies later", court.die(0), 0);
        CHECK.is("it ended with the first death", court.vowOf(0, 2), 3);
        CHECK.is("one without vows", court.die(2), 0);
    }
}
