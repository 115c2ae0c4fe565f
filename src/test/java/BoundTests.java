/** Promises 22, 27 and 30, and what "Vows" says of who is bound. */
final class BoundTests {
    private static final int LAST_DAY = 1000000;

    private BoundTests() {
    }

    static void tell(Suite suite) {
        pass(suite);
        boundFrom(suite);
        boundUntil(suite);
        asIsKnownNow(suite);
        lowest(suite);
        farDays(suite);
        state(suite);
        stateOfTwoDigits(suite);
    }

    private static void pass(Suite suite) {
        suite.test("promise 22: the fewest days", () -> new Court().answers(1, c -> c.pass(1)));
        suite.test("promise 22: the most days", () -> new Court().answers(10000, c -> c.pass(10000)));
        suite.test("promise 22: it returns the day then, all days together", () ->
                new Court().does(c -> c.pass(1)).does(c -> c.pass(10000)).answers(10003, c -> c.pass(2)));
        suite.test("promise 22: 0 days are refused, and no day passes", () ->
                new Court().does(c -> c.pass(5)).illegalArgument(c -> c.pass(0)).answers(6, c -> c.pass(1)));
        suite.test("promise 22: 10001 days are refused, and no day passes", () ->
                new Court().does(c -> c.pass(5)).illegalArgument(c -> c.pass(10001)).answers(6, c -> c.pass(1)));
        suite.test("promise 22: -1 days are refused, and no day comes back", () ->
                new Court().does(c -> c.pass(5)).illegalArgument(c -> c.pass(-1)).answers(6, c -> c.pass(1)));
        suite.test("promise 22: days pass beyond the last day that can be asked for", () -> {
            Court court = new Court();
            for (int call = 1; call <= 101; call++) {
                court.answers(10000 * call, c -> c.pass(10000));
            }
            court.answers(1010001, c -> c.pass(1));
        });
    }

    private static void boundFrom(Suite suite) {
        suite.test("promise 27: free on the day ahead of the vow", () -> vowedOn10().answers(-1, c -> c.bound(0, 9)));
        suite.test("promise 27: bound on the day of the vow", () -> vowedOn10().answers(0, c -> c.bound(0, 10)));
        suite.test("promise 27: bound on the day behind the vow", () -> vowedOn10().answers(0, c -> c.bound(0, 11)));
        suite.test("promise 27: free on the day 0", () -> vowedOn10().answers(-1, c -> c.bound(0, 0)));
        suite.test("promise 27: bound on the day 0 by a vow of that day", () ->
                Court.vowed().answers(0, c -> c.bound(0, 0)));
        suite.test("promise 27: the other of both is bound too", () ->
                vowedOn10().answers(-1, c -> c.bound(1, 9)).answers(0, c -> c.bound(1, 10)));
        suite.test("promise 27: another person is free", () -> vowedOn10().answers(-1, c -> c.bound(2, 10)));
        suite.test("promise 27: bound on a day to come", () -> vowedOn10().answers(0, c -> c.bound(0, 5000)));
        suite.test("promise 27: bound on the last day to come", () ->
                vowedOn10().answers(0, c -> c.bound(0, LAST_DAY)));
        suite.test("promise 27: a hindered vow without its form binds", () ->
                Court.aged(10, 9000).does(c -> c.order(1)).does(c -> c.vow(0, 1, 0, 0))
                        .answers(0, c -> c.bound(0, 0)));
    }

    private static Court vowedOn10() {
        return Court.of(4).does(c -> c.pass(10)).does(c -> c.vow(0, 1, 3, 0));
    }

    private static void boundUntil(Suite suite) {
        suite.test("promise 27: DISSOLVED: bound on the day ahead of that", () ->
                dissolvedOn20().answers(0, c -> c.bound(0, 19)));
        suite.test("promise 27: DISSOLVED: free from that day on", () ->
                dissolvedOn20().answers(-1, c -> c.bound(0, 20)).answers(-1, c -> c.bound(1, LAST_DAY)));
        suite.test("promise 27: ENDED: bound on the day ahead of that", () ->
                endedOn20().answers(0, c -> c.bound(1, 19)).answers(0, c -> c.bound(0, 19)));
        suite.test("promise 27: ENDED: free from that day on", () ->
                endedOn20().answers(-1, c -> c.bound(1, 20)).answers(-1, c -> c.bound(1, LAST_DAY)));
        suite.test("promise 27: ENDED: the dead is bound no more either", () ->
                endedOn20().answers(-1, c -> c.bound(0, 20)));
        suite.test("promise 27: DISSOLVED on the day of the vow: never bound", () ->
                vowedOn10().does(c -> c.grace(0)).answers(-1, c -> c.bound(0, 10)).answers(-1, c -> c.bound(0, 11)));
        suite.test("promise 27: ENDED on the day of the vow: never bound", () ->
                vowedOn10().does(c -> c.die(0)).answers(-1, c -> c.bound(1, 10)).answers(-1, c -> c.bound(1, 11)));
        suite.test("promise 27: DISSOLVED a day behind the vow: bound for that day alone", () ->
                vowedOn10().does(c -> c.pass(1)).does(c -> c.grace(0)).answers(-1, c -> c.bound(0, 9))
                        .answers(0, c -> c.bound(0, 10)).answers(-1, c -> c.bound(0, 11)));
    }

    private static Court dissolvedOn20() {
        return vowedOn10().does(c -> c.pass(10)).does(c -> c.grace(0)).does(c -> c.pass(10));
    }

    private static Court endedOn20() {
        return vowedOn10().does(c -> c.pass(10)).does(c -> c.die(0)).does(c -> c.pass(10));
    }

    private static void asIsKnownNow(Suite suite) {
        suite.test("promise 27: as is known now: NULL by documents: never bound", () ->
                vowedOn10().does(c -> c.pass(10)).answers(0, c -> c.bound(0, 15)).does(c -> c.documents(0))
                        .answers(-1, c -> c.bound(0, 15)).answers(-1, c -> c.bound(0, 10))
                        .answers(-1, c -> c.bound(1, 25)));
        suite.test("promise 27: as is known now: NULL by sentences: never bound", () ->
                Court.behind(2).answers(0, c -> c.bound(0, 0)).does(c -> c.pass(5)).judges(0, 2)
                        .answers(-1, c -> c.bound(0, 0)).answers(-1, c -> c.bound(0, 9)));
        suite.test("promise 27: as is known now: NULL behind its end: never bound", () ->
                endedOn20().does(c -> c.documents(0)).answers(-1, c -> c.bound(0, 15)));
        suite.test("promise 27: a day that has passed, asked for before and behind the end", () ->
                vowedOn10().answers(0, c -> c.bound(0, 30)).does(c -> c.pass(10)).does(c -> c.grace(0))
                        .answers(-1, c -> c.bound(0, 30)));
    }

    private static void lowest(Suite suite) {
        suite.test("promise 27: the lowest of two vows", () ->
                Court.vowed().does(c -> c.vow(2, 0, 0, 0)).answers(0, c -> c.bound(0, 0))
                        .answers(1, c -> c.bound(2, 0)));
        suite.test("promise 27: the next one when the lowest one is DISSOLVED", () ->
                Court.vowed().does(c -> c.vow(2, 0, 0, 0)).does(c -> c.pass(5)).does(c -> c.grace(0))
                        .answers(0, c -> c.bound(0, 4)).answers(1, c -> c.bound(0, 5)));
        suite.test("promise 27: the next one when the lowest one is NULL", () ->
                Court.vowed().does(c -> c.vow(2, 0, 0, 0)).does(c -> c.documents(0)).answers(1, c -> c.bound(0, 0)));
        suite.test("promise 27: the lowest one that binds on that day, with a later one ahead of it", () ->
                Court.vowed().does(c -> c.pass(5)).does(c -> c.vow(0, 2, 0, 0)).does(c -> c.pass(5))
                        .does(c -> c.vow(0, 3, 0, 0)).does(c -> c.grace(0)).does(c -> c.grace(1))
                        .answers(0, c -> c.bound(0, 9)).answers(2, c -> c.bound(0, 10)));
        suite.test("promise 27: the vow 29 is the lowest one of others", () -> {
            Court court = Court.of(24);
            for (int vow = 0; vow < 29; vow++) {
                court.does(c -> c.vow(0, 1, 0, 0));
            }
            court.does(c -> c.vow(22, 23, 0, 0)).answers(29, c -> c.bound(23, 0)).answers(0, c -> c.bound(1, 0));
        });
    }

    private static void farDays(Suite suite) {
        suite.test("promise 27: a vow behind the last day that can be asked for", () -> {
            Court court = Court.of(2);
            for (int call = 0; call < 100; call++) {
                court.does(c -> c.pass(10000));
            }
            court.does(c -> c.pass(1)).does(c -> c.vow(0, 1, 0, 0)).answers(LAST_DAY + 1, c -> c.vowOf(0, 1))
                    .answers(-1, c -> c.bound(0, LAST_DAY)).reads("free", 0, LAST_DAY)
                    .does(c -> c.grace(0)).vowIs(0, VowCourt.DISSOLVED, LAST_DAY + 1);
        });
        suite.test("promise 27: a vow on the last day that can be asked for", () -> {
            Court court = Court.of(2);
            for (int call = 0; call < 100; call++) {
                court.does(c -> c.pass(10000));
            }
            court.does(c -> c.vow(0, 1, 0, 0)).answers(-1, c -> c.bound(0, LAST_DAY - 1))
                    .answers(0, c -> c.bound(0, LAST_DAY));
        });
    }

    private static void state(Suite suite) {
        suite.test("promise 30: \"free\" ahead of a vow", () -> vowedOn10().reads("free", 0, 9));
        suite.test("promise 30: \"free\" without a vow", () -> vowedOn10().reads("free", 2, 10));
        suite.test("promise 30: the vow, and the other person, of the first one", () ->
                vowedOn10().reads("bound by 0 to 1", 0, 10));
        suite.test("promise 30: the vow, and the other person, of the other one", () ->
                vowedOn10().reads("bound by 0 to 0", 1, 10));
        suite.test("promise 30: to come, on the last day", () ->
                vowedOn10().reads("bound by 0 to 1", 0, LAST_DAY));
        suite.test("promise 30: \"free\" from the day on which it is DISSOLVED", () ->
                dissolvedOn20().reads("bound by 0 to 1", 0, 19).reads("free", 0, 20));
        suite.test("promise 30: \"free\" from the day on which it ENDED", () ->
                endedOn20().reads("bound by 0 to 0", 1, 19).reads("free", 1, 20));
        suite.test("promise 30: \"free\" as is known now", () ->
                vowedOn10().does(c -> c.documents(0)).reads("free", 0, 10));
        suite.test("promise 30: the lowest vow is told", () ->
                Court.vowed().does(c -> c.vow(2, 0, 0, 0)).reads("bound by 0 to 1", 0, 0)
                        .reads("bound by 1 to 0", 2, 0));
        suite.test("promise 30: 0 if there are not so many, far behind the last one", () ->
                vowedOn10().answers(0, c -> c.state(0, 9, Integer.MAX_VALUE)).answers(0, c -> c.state(0, 10, 1000))
                        .answers(0, c -> c.state(0, 10, 1 << 16)));
        suite.test("promise 30: place -1 is out of bounds, also of a person who is free", () ->
                vowedOn10().outOfBounds(c -> c.state(2, 0, -1)).outOfBounds(c -> c.state(0, 10, -1)));
    }

    private static void stateOfTwoDigits(Suite suite) {
        suite.test("promise 30: numbers of two digits", () -> {
            Court court = Court.of(24);
            for (int number = 0; number < 12; number++) {
                int person = number;
                court.does(c -> c.vow(person, 23 - person, 0, 0));
            }
            court.reads("bound by 9 to 14", 9, 0).reads("bound by 10 to 13", 10, 0).reads("bound by 11 to 12", 11, 0)
                    .reads("bound by 11 to 11", 12, 0).reads("bound by 10 to 10", 13, 0)
                    .reads("bound by 9 to 9", 14, 0).reads("bound by 0 to 23", 0, 0);
        });
        suite.test("promise 30: the longest text, of the vow 29 to the person 23", () -> {
            Court court = Court.of(24);
            for (int vow = 0; vow < 29; vow++) {
                court.does(c -> c.vow(0, 1, 0, 0));
            }
            court.does(c -> c.vow(22, 23, 0, 0)).reads("bound by 29 to 23", 22, 0).reads("bound by 29 to 22", 23, 0);
        });
    }
}
