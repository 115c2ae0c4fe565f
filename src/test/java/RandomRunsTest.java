/**
 * Long runs of calls from a fixed row of numbers: no call throws what the document does not name for it,
 * none that throws changes an answer, and answers that follow from one another agree.
 */
public final class RandomRunsTest {
    private static final int RUNS = 150;
    private static final int CALLS = 512;
    private static final int INDEX = 1, ARGUMENT = 2, STATE = 4;
    private static final int[] ODD = {
        Integer.MIN_VALUE, -32769, -256, -2, -1, 0, 1, 2, 3, 6, 7, 8, 23, 24, 29, 30, 31, 32, 127, 128,
        5039, 5760, 10000, 10001, 36000, 36001, 1000000, 1000001, Integer.MAX_VALUE,
    };
    private static final Check CHECK = new Check("RandomRunsTest");
    private static long seed = 20261119;
    private static int thirdInstances = 0;
    private static int nullVows = 0;

    private final VowCourt court;
    private final int[] ones = new int[30];
    private final int[] others = new int[30];
    private final int[] votable = new int[30];
    private int causes = 0;
    private int allowed = 0;

    private RandomRunsTest(int persons) {
        court = Courts.with(persons);
    }

    public static void main(String[] args) {
        for (int run = 0; run < RUNS; run++) {
            RandomRunsTest made = new RandomRunsTest(run % 3 == 0 ? 0 : 6);
            made.callOften("run " + run);
            made.answersAgree();
            made.callWithOddNumbers("odd run " + run);
        }
        CHECK.is("causes came to a third instance", thirdInstances > 0, true);
        CHECK.is("vows became null", nullVows > 0, true);
        CHECK.finish();
    }

    private void callOften(String run) {
        for (int call = 0; call < CALLS; call++) {
            boolean looked = call % 16 == 0;
            String before = looked ? Snapshot.of(court) : "";
            int kind = below(2) == 0 ? below(28) : 16 + below(11);
            boolean refused = isRefused(run + ", call " + call, kind);
            if (looked && refused && !before.equals(Snapshot.of(court))) {
                CHECK.tell(run + ", call " + call + " was refused, but changed something");
            }
        }
    }

    private boolean isRefused(String call, int kind) {
        allowed = 0;
        try {
            if (kind < 12) {
                callOfPersonsAndVows(kind);
            } else {
                callOfVowsAndCauses(kind);
            }
            return false;
        } catch (RuntimeException e) {
            if ((bitOf(e) & allowed) == 0) {
                CHECK.tell(call + " of kind " + kind + " threw " + e);
            }
            return true;
        }
    }

    private void callOfPersonsAndVows(int kind) {
        switch (kind) {
            case 0: allow(INDEX, ARGUMENT, STATE); court.person(below(12000), near(24), near(24), near(8)); break;
            case 1: allow(INDEX, ARGUMENT); court.rite(near(20), near(3)); break;
            case 2: allow(INDEX, ARGUMENT); court.home(near(20), near(8)); break;
            case 3: allow(INDEX, STATE); court.order(below(60)); break;
            case 4: allow(INDEX); court.ban(below(200)); break;
            case 5: allow(INDEX, STATE); court.die(below(200)); break;
            case 6: allow(INDEX, ARGUMENT, STATE); court.dispense(near(12), near(12), 1 << below(4)); break;
            case 7: allow(ARGUMENT); court.faculty(near(6), near(8), near(100)); break;
            case 8: allow(ARGUMENT); court.error(near(8)); break;
            default: allow(INDEX, ARGUMENT, STATE); vowAndKeep(near(8), near(8)); break;
        }
    }

    private void callOfVowsAndCauses(int kind) {
        switch (kind) {
            case 12: allow(INDEX, STATE); court.heal(near(30)); break;
            case 13: allow(INDEX, STATE); court.grace(below(200)); break;
            case 14: allow(INDEX, STATE); court.documents(below(60)); break;
            case 15: allow(INDEX, ARGUMENT, STATE); court.cause(near(8), near(8), near(128), below(2) == 0); causes++; break;
            case 16: allow(INDEX, ARGUMENT, STATE); court.doubt(someCause(), near(128)); break;
            case 17: case 18: allow(INDEX, ARGUMENT, STATE); court.proof(someCause(), near(7), below(20) - 9); break;
            case 19: case 20: allow(INDEX, STATE); publishAndKeep(someCause()); break;
            case 21: case 22: case 23: allow(INDEX, ARGUMENT, STATE); voteForProved(someCause()); break;
            case 24: case 25: allow(INDEX, STATE); court.sentence(someCause()); break;
            case 26: allow(INDEX, STATE); court.appeal(someCause()); break;
            default: allow(ARGUMENT); court.pass(near(50)); break;
        }
    }

    private void vowAndKeep(int one, int other) {
        int number = court.vow(one, other, near(8), near(6));
        ones[number] = one;
        others[number] = other;
    }

    private void publishAndKeep(int cause) {
        int proved = court.publish(cause);
        votable[cause] = proved;
    }

    /** Mostly for all grounds that may be voted for, so that runs come to like sentences. */
    private void voteForProved(int cause) {
        int grounds = cause >= 0 && cause < votable.length ? votable[cause] : 0;
        int judge = below(8) == 0 ? near(3) : court.causeOf(cause, 6);
        court.vote(cause, judge, below(3) == 0 ? grounds & below(128) : grounds);
    }

    private void answersAgree() {
        int persons = Snapshot.persons(court);
        for (int one = 0; one < persons; one++) {
            for (int other = 0; other < persons; other++) {
                CHECK.is("kin both ways", court.kin(one, other), court.kin(other, one));
                CHECK.is("kin by lines", court.kin(one, other), kinByLines(one, other));
            }
            for (int day = 0; day < 400; day += 7) {
                CHECK.is("state", Snapshot.state(court, one, day), stateByBound(one, day));
            }
        }
        for (int vow = 0; vow < Snapshot.vows(court); vow++) {
            boolean bond = isBelow(court.bound(ones[vow], court.vowOf(vow, 1)), vow)
                    || isBelow(court.bound(others[vow], court.vowOf(vow, 1)), vow);
            CHECK.is("hindered by a bond", (court.hindered(vow) & VowCourt.BOND) != 0, bond);
            nullVows += court.vowOf(vow, 0) == VowCourt.NULL ? 1 : 0;
        }
        for (int cause = 0; cause < Snapshot.causes(court); cause++) {
            thirdInstances += court.causeOf(cause, 1) == 3 ? 1 : 0;
        }
    }

    private static boolean isBelow(int found, int vow) {
        return found != VowCourt.NONE && found < vow;
    }

    private String stateByBound(int person, int day) {
        int vow = court.bound(person, day);
        if (vow == VowCourt.NONE) {
            return "free";
        }
        return "bound by " + vow + " to " + (ones[vow] == person ? others[vow] : ones[vow]);
    }

    /** Kin once more, from steps that are told by kin in line alone, as far as these are the fewest. */
    private int kinByLines(int one, int other) {
        int fewest = 1000;
        for (int common = 0; common < Snapshot.persons(court); common++) {
            int first = stepsTo(one, common);
            int second = stepsTo(other, common);
            if (first >= 0 && second >= 0) {
                int inLine = common == one || common == other ? 1 : 0;
                int told = 100 * (first + second) + inLine;
                boolean fewer = told / 100 < fewest / 100;
                fewest = fewer || told / 100 == fewest / 100 && inLine == 1 ? told : fewest;
            }
        }
        return fewest == 1000 ? -1 : fewest;
    }

    private int stepsTo(int person, int other) {
        if (person == other) {
            return 0;
        }
        int kin = court.kin(person, other);
        return other < person && kin >= 0 && kin % 100 == 1 ? kin / 100 : -1;
    }

    /** What calls behind the 512th answer is free, but the machine throws nothing there either. */
    private void callWithOddNumbers(String run) {
        for (int call = 0; call < 200; call++) {
            int kind = below(29);
            try {
                oddCall(kind, odd(), odd(), odd());
            } catch (RuntimeException e) {
                if (bitOf(e) == 0) {
                    CHECK.tell(run + " of kind " + kind + " threw " + e);
                }
            }
        }
    }

    private void oddCall(int kind, int a, int b, int c) {
        switch (kind) {
            case 0: court.person(a, b, c, odd()); break;
            case 1: court.rite(a, b); break;
            case 2: court.home(a, b); break;
            case 3: court.order(a); break;
            case 4: court.ban(a); break;
            case 5: court.die(a); break;
            case 6: court.dispense(a, b, c); break;
            case 7: court.faculty(a, b, c); break;
            case 8: court.error(a); break;
            case 9: court.vow(a, b, c, odd()); break;
            case 10: court.heal(a); break;
            case 11: court.grace(a); break;
            case 12: court.documents(a); break;
            case 13: court.cause(a, b, c, true); break;
            case 14: court.doubt(a, b); break;
            case 15: court.proof(a, b, c); break;
            case 16: court.publish(a); break;
            case 17: court.vote(a, b, c); break;
            case 18: court.sentence(a); break;
            case 19: court.appeal(a); break;
            case 20: court.pass(a); break;
            case 21: court.kin(a, b); break;
            case 22: court.ancestor(a, b); break;
            case 23: court.hindered(a); break;
            case 24: court.vowOf(a, b); break;
            case 25: court.bound(a, b); break;
            case 26: court.hasCause(a, b); break;
            case 27: court.causeOf(a, b); break;
            default: court.state(a, b, c); break;
        }
    }

    private void allow(int... bits) {
        for (int bit : bits) {
            allowed |= bit;
        }
    }

    private static int bitOf(RuntimeException e) {
        if (!Check.isThrownByCourt(e)) {
            return 0;
        }
        if (e.getClass() == IndexOutOfBoundsException.class) {
            return INDEX;
        }
        if (e.getClass() == IllegalArgumentException.class) {
            return ARGUMENT;
        }
        return e.getClass() == IllegalStateException.class ? STATE : 0;
    }

    /** One of the last causes, as earlier ones are mostly over; at times one that is not there. */
    private int someCause() {
        return below(20) == 0 ? near(30) : causes - 1 - below(2);
    }

    private static int odd() {
        return ODD[below(ODD.length)];
    }

    /** Below a count, and at times a bit beyond its ends. */
    private static int near(int count) {
        return below(20) == 0 ? below(count + 4) - 2 : below(count);
    }

    private static int below(int bound) {
        seed = seed * 6364136223846793005L + 1442695040888963407L;
        return (int) ((seed >>> 33) % bound);
    }
}
