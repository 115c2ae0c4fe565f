import java.util.ArrayList;
import java.util.Arrays;

/** A court that finds whether a marriage ever was. The promises stand in ../shared/DOC.md. */
public final class VowCourt {
    public static final int NONE = -1;
    public static final int AGE = 1, KIN = 2, BOND = 4, ORDER = 8;
    public static final int STANDS = 0, NULL = 1, DISSOLVED = 2, ENDED = 3;
    public static final int OPEN = 0, PUBLISHED = 1, NULLIFIED = 2, REFUSED = 3;

    private static final int MOST_PERSONS = 24;
    private static final int MOST_VOWS = 30;
    private static final int MOST_CAUSES = 30;
    private static final int PLACES = 8;
    private static final int RITES = 3;
    private static final int WITNESSES = 6;
    private static final int GROUNDS = 7;
    private static final int JUDGES = 3;
    private static final int INSTANCES = 3;
    private static final int THINGS_OF_A_VOW = 5;
    private static final int THINGS_OF_A_CAUSE = 7;

    private static final int YEAR = 360;
    private static final int AGE_TO_VOW = 16 * YEAR;
    private static final int AGE_TO_BE_DISPENSED = 14 * YEAR;
    private static final int MOST_AGE = 36000;
    private static final int MOST_DAYS = 10000;
    private static final int LAST_DAY = 1000000;

    private static final int HINDERING_DEGREE = 4;
    private static final int CLOSEST_DEGREE = 2;
    private static final int RITE_OF_THE_FORM = 0;
    private static final int WITHOUT_FORM = 16;

    private static final int ALL_GROUNDS = 127;
    private static final int CONDITION_AND_FEIGNED = 32 + 64;
    private static final int MOST_WEIGHT = 10;
    private static final int MOST_WEIGHT_TOGETHER = 1000;
    private static final int PROVED = 6;

    private final ArrayList<Person> persons = new ArrayList<Person>();
    private final ArrayList<Vow> vows = new ArrayList<Vow>();
    private final ArrayList<Cause> causes = new ArrayList<Cause>();
    private final Lines lines = new Lines();
    private final int[][] dispensed = new int[MOST_PERSONS][MOST_PERSONS];
    private final int[][] facultyEnds = new int[WITNESSES][PLACES];
    private final boolean[] errors = new boolean[PLACES];
    private int today = 0;

    public VowCourt() {
    }

    // ---- persons

    public int person(int age, int father, int mother, int home)
            throws IndexOutOfBoundsException, IllegalArgumentException, IllegalStateException {
        checkIndex(father == NONE || isPerson(father));
        checkIndex(mother == NONE || isPerson(mother));
        checkArgument(father == NONE || father != mother);
        checkArgument(age >= 0 && age <= MOST_AGE && isPlace(home));
        checkPossible(persons.size() < MOST_PERSONS);
        int number = persons.size();
        lines.enter(number, father, mother);
        persons.add(new Person(today - age, home));
        return number;
    }

    public int rite(int person, int rite) throws IndexOutOfBoundsException, IllegalArgumentException {
        Person who = personAt(person);
        checkArgument(rite >= 0 && rite < RITES);
        int before = who.riteNow;
        who.riteNow = rite;
        return before;
    }

    public int home(int person, int home) throws IndexOutOfBoundsException, IllegalArgumentException {
        Person who = personAt(person);
        checkArgument(isPlace(home));
        int before = who.homeNow;
        who.homeNow = home;
        return before;
    }

    public void order(int person) throws IndexOutOfBoundsException, IllegalStateException {
        Person who = personAt(person);
        checkPossible(who.lives && !who.ordered);
        who.ordered = true;
    }

    public boolean ban(int person) throws IndexOutOfBoundsException {
        Person who = personAt(person);
        who.banned = !who.banned;
        return who.banned;
    }

    public int die(int person) throws IndexOutOfBoundsException, IllegalStateException {
        Person who = personAt(person);
        checkPossible(who.lives);
        who.lives = false;
        return endVowsOf(person);
    }

    // ---- vows

    public void dispense(int one, int other, int kind)
            throws IndexOutOfBoundsException, IllegalArgumentException, IllegalStateException {
        checkIndex(isPerson(one) && isPerson(other));
        checkArgument(one != other && (kind == AGE || kind == KIN || kind == ORDER));
        checkPossible((lastingHindrances(one, other) & kind) != 0);
        checkPossible(canBeDispensed(one, other, kind));
        dispensed[one][other] |= kind;
        dispensed[other][one] |= kind;
    }

    public void faculty(int witness, int place, int days) throws IllegalArgumentException {
        checkArgument(isWitness(witness) && isPlace(place) && days >= 0 && days <= MOST_DAYS);
        facultyEnds[witness][place] = today + days;
    }

    public boolean error(int place) throws IllegalArgumentException {
        checkArgument(isPlace(place));
        errors[place] = !errors[place];
        return errors[place];
    }

    public int vow(int one, int other, int place, int witness)
            throws IndexOutOfBoundsException, IllegalArgumentException, IllegalStateException {
        Person first = personAt(one);
        Person second = personAt(other);
        checkArgument(one != other && isPlace(place) && isWitness(witness));
        checkPossible(first.mayVow() && second.mayVow() && vows.size() < MOST_VOWS);
        boolean needsForm = first.riteNow == RITE_OF_THE_FORM || second.riteNow == RITE_OF_THE_FORM;
        boolean hasForm = today < facultyEnds[witness][place] || errors[place];
        vows.add(new Vow(one, other, place, today, lastingHindrances(one, other), needsForm && !hasForm));
        return vows.size() - 1;
    }

    public void heal(int vow) throws IndexOutOfBoundsException, IllegalStateException {
        Vow healed = vowAt(vow);
        // That both live needs no look of its own: a death ends every vow that stands.
        checkPossible(healed.status == STANDS && healed.lacksForm && hindrances(vow) == 0);
        healed.lacksForm = false;
    }

    public void grace(int vow) throws IndexOutOfBoundsException, IllegalStateException {
        Vow dissolved = vowAt(vow);
        checkPossible(dissolved.status == STANDS && !isInCourt(vow));
        dissolved.turn(DISSOLVED, today);
    }

    public int documents(int vow) throws IndexOutOfBoundsException, IllegalStateException {
        Vow found = vowAt(vow);
        int faults = hindrances(vow) + (found.lacksForm ? WITHOUT_FORM : 0);
        checkPossible(faults != 0 && mayBeJudged(vow));
        found.turn(NULL, today);
        return faults;
    }

    // ---- causes

    public int cause(int vow, int place, int doubt, boolean byLeave)
            throws IndexOutOfBoundsException, IllegalArgumentException, IllegalStateException {
        Vow doubted = vowAt(vow);
        checkArgument(isPlace(place) && isDoubt(doubt));
        checkPossible(byLeave || isCourtOf(doubted, place));
        checkPossible(mayBeJudged(vow) && causes.size() < MOST_CAUSES);
        causes.add(new Cause(vow, doubt));
        return causes.size() - 1;
    }

    public int doubt(int cause, int doubt)
            throws IndexOutOfBoundsException, IllegalArgumentException, IllegalStateException {
        Cause changed = causeAt(cause);
        checkArgument(isDoubt(doubt));
        checkPossible(changed.status == OPEN && changed.instance == 1);
        int before = changed.doubted;
        changed.doubted = doubt;
        return before;
    }

    public int proof(int cause, int ground, int weight)
            throws IndexOutOfBoundsException, IllegalArgumentException, IllegalStateException {
        Cause told = causeAt(cause);
        checkArgument(ground >= 0 && ground < GROUNDS);
        checkArgument(weight >= -MOST_WEIGHT && weight <= MOST_WEIGHT);
        checkPossible(told.status == OPEN && (told.doubted & (1 << ground)) != 0);
        int together = told.weights[ground] + weight;
        checkPossible(together >= -MOST_WEIGHT_TOGETHER && together <= MOST_WEIGHT_TOGETHER);
        told.weights[ground] = together;
        return together;
    }

    public int publish(int cause) throws IndexOutOfBoundsException, IllegalStateException {
        Cause published = causeAt(cause);
        checkPossible(published.status == OPEN);
        published.status = PUBLISHED;
        return published.provedGrounds();
    }

    public int vote(int cause, int judge, int grounds)
            throws IndexOutOfBoundsException, IllegalArgumentException, IllegalStateException {
        Cause voted = causeAt(cause);
        checkIndex(judge >= 0 && judge < JUDGES);
        checkArgument(grounds >= 0 && grounds <= ALL_GROUNDS);
        checkPossible(voted.status == PUBLISHED && voted.votes[judge] == NONE);
        checkPossible((grounds & ~voted.provedGrounds()) == 0);
        voted.votes[judge] = grounds;
        return voted.votesCast();
    }

    public int sentence(int cause) throws IndexOutOfBoundsException, IllegalStateException {
        Cause judged = causeAt(cause);
        checkPossible(judged.status == PUBLISHED && judged.votesCast() == JUDGES);
        int grounds = judged.majority();
        judged.conclude(grounds);
        if (judged.status == NULLIFIED) {
            vowAt(judged.vowNumber).turn(NULL, today);
        }
        return grounds;
    }

    public void appeal(int cause) throws IndexOutOfBoundsException, IllegalStateException {
        Cause appealed = causeAt(cause);
        checkPossible(appealed.status == REFUSED && appealed.instance == 1);
        checkPossible(mayBeJudged(appealed.vowNumber));
        appealed.reopen();
    }

    public int pass(int days) throws IllegalArgumentException {
        checkArgument(days >= 1 && days <= MOST_DAYS);
        today += days;
        return today;
    }

    // ---- asking

    public int kin(int one, int other) throws IndexOutOfBoundsException {
        checkIndex(isPerson(one) && isPerson(other));
        int degree = lines.degree(one, other);
        if (degree >= Lines.APART) {
            return NONE;
        }
        return 100 * degree + (lines.inLine(one, other) ? 1 : 0);
    }

    public int ancestor(int person, int place) throws IndexOutOfBoundsException {
        checkIndex(isPerson(person) && place >= 0);
        return lines.ancestorAt(person, place);
    }

    public int hindered(int vow) throws IndexOutOfBoundsException {
        return hindrances(vow);
    }

    public int vowOf(int vow, int what) throws IndexOutOfBoundsException, IllegalArgumentException {
        Vow asked = vowAt(vow);
        checkArgument(what >= 0 && what < THINGS_OF_A_VOW);
        switch (what) {
            case 0:
                return asked.status;
            case 1:
                return asked.day;
            case 2:
                return asked.turned;
            case 3:
                return asked.lacksForm ? 1 : 0;
            default:
                return asked.place;
        }
    }

    public int bound(int person, int day) throws IndexOutOfBoundsException, IllegalArgumentException {
        checkIndex(isPerson(person));
        checkArgument(isDay(day));
        return lowestBond(person, day, vows.size());
    }

    public boolean hasCause(int vow, int place) throws IndexOutOfBoundsException, IllegalArgumentException {
        Vow asked = vowAt(vow);
        checkArgument(isPlace(place));
        return isCourtOf(asked, place);
    }

    public int causeOf(int cause, int what) throws IndexOutOfBoundsException, IllegalArgumentException {
        Cause asked = causeAt(cause);
        checkArgument(what >= 0 && what < THINGS_OF_A_CAUSE);
        switch (what) {
            case 0:
                return asked.status;
            case 1:
                return asked.instance;
            case 2:
                return asked.doubted;
            case 6:
                return asked.votesCast();
            default:
                return asked.sentences[what - 3];
        }
    }

    public char state(int person, int day, int place)
            throws IndexOutOfBoundsException, IllegalArgumentException {
        checkIndex(isPerson(person) && place >= 0);
        checkArgument(isDay(day));
        StringBuilder text = describe(person, day);
        return place < text.length() ? text.charAt(place) : (char) 0;
    }

    // ---- what may be asked for

    private static void checkIndex(boolean exists) {
        if (!exists) {
            throw new IndexOutOfBoundsException("there is no such person, vow, cause, judge or place");
        }
    }

    private static void checkArgument(boolean inRange) {
        if (!inRange) {
            throw new IllegalArgumentException("an argument is out of range");
        }
    }

    private static void checkPossible(boolean possible) {
        if (!possible) {
            throw new IllegalStateException("that is not possible now");
        }
    }

    private boolean isPerson(int number) {
        return number >= 0 && number < persons.size();
    }

    private static boolean isPlace(int place) {
        return place >= 0 && place < PLACES;
    }

    private static boolean isWitness(int witness) {
        return witness >= 0 && witness < WITNESSES;
    }

    private static boolean isDoubt(int doubt) {
        return doubt >= 1 && doubt <= ALL_GROUNDS;
    }

    private static boolean isDay(int day) {
        return day >= 0 && day <= LAST_DAY;
    }

    private Person personAt(int number) {
        checkIndex(isPerson(number));
        return persons.get(number);
    }

    private Vow vowAt(int number) {
        checkIndex(number >= 0 && number < vows.size());
        return vows.get(number);
    }

    private Cause causeAt(int number) {
        checkIndex(number >= 0 && number < causes.size());
        return causes.get(number);
    }

    // ---- what hinders

    /** AGE, KIN and ORDER, which a vow of today would keep for good; BOND is found anew at each asking. */
    private int lastingHindrances(int one, int other) {
        int found = 0;
        if (ageOfYounger(one, other) < AGE_TO_VOW) {
            found |= AGE;
        }
        if (lines.inLine(one, other) || lines.degree(one, other) <= HINDERING_DEGREE) {
            found |= KIN;
        }
        if (personAt(one).ordered || personAt(other).ordered) {
            found |= ORDER;
        }
        return found & ~dispensed[one][other];
    }

    private boolean canBeDispensed(int one, int other, int kind) {
        if (kind == AGE) {
            return ageOfYounger(one, other) >= AGE_TO_BE_DISPENSED;
        }
        if (kind == KIN) {
            return !lines.inLine(one, other) && lines.degree(one, other) > CLOSEST_DEGREE;
        }
        return kind == ORDER;
    }

    private int ageOfYounger(int one, int other) {
        return today - Math.max(personAt(one).born, personAt(other).born);
    }

    private int hindrances(int vow) {
        Vow asked = vowAt(vow);
        boolean wasBound = lowestBond(asked.one, asked.day, vow) != NONE
                || lowestBond(asked.other, asked.day, vow) != NONE;
        return asked.lasting + (wasBound ? BOND : 0);
    }

    /** The lowest vow, of those below a number, by which a person was bound on a day, or NONE. */
    private int lowestBond(int person, int day, int below) {
        for (int number = 0; number < below && number < vows.size(); number++) {
            Vow vow = vows.get(number);
            if (vow.isOf(person) && vow.bindsOn(day)) {
                return number;
            }
        }
        return NONE;
    }

    private int endVowsOf(int person) {
        int ended = 0;
        for (int number = 0; number < vows.size(); number++) {
            Vow vow = vows.get(number);
            if (vow.status == STANDS && vow.isOf(person)) {
                vow.turn(ENDED, today);
                ended++;
            }
        }
        return ended;
    }

    // ---- courts

    private boolean mayBeJudged(int vow) {
        int status = vowAt(vow).status;
        return (status == STANDS || status == ENDED) && !isInCourt(vow);
    }

    private boolean isInCourt(int vow) {
        for (int number = 0; number < causes.size(); number++) {
            Cause cause = causes.get(number);
            if (cause.vowNumber == vow && !cause.isOver()) {
                return true;
            }
        }
        return false;
    }

    private boolean isCourtOf(Vow vow, int place) {
        return place == vow.place || livesAt(vow.one, place) || livesAt(vow.other, place);
    }

    private boolean livesAt(int person, int place) {
        Person who = personAt(person);
        return who.lives && who.homeNow == place;
    }

    private StringBuilder describe(int person, int day) {
        StringBuilder text = new StringBuilder();
        int number = lowestBond(person, day, vows.size());
        if (number == NONE) {
            return text.append("free");
        }
        text.append("bound by ").append(number);
        return text.append(" to ").append(vowAt(number).partnerOf(person));
    }

    private static final class Person {
        final int born;
        int homeNow;
        int riteNow = 0;
        boolean ordered = false;
        boolean banned = false;
        boolean lives = true;

        Person(int born, int homeNow) {
            this.born = born;
            this.homeNow = homeNow;
        }

        boolean mayVow() {
            return lives && !banned;
        }
    }

    /**
     * The fewest steps of a line from each person to each. Parents are told ahead of their children
     * and stay, so a row follows from the parents' rows once, and no line has to be walked later.
     */
    private static final class Lines {
        // Above any two lines together, so that a sum with it in is no degree.
        static final int APART = 100;

        final int[][] steps = new int[MOST_PERSONS][MOST_PERSONS];

        Lines() {
            for (int person = 0; person < MOST_PERSONS; person++) {
                Arrays.fill(steps[person], APART);
            }
        }

        void enter(int person, int father, int mother) {
            for (int to = 0; to < person; to++) {
                int fromParents = Math.min(stepsBetween(father, to), stepsBetween(mother, to));
                steps[person][to] = Math.min(APART, fromParents + 1);
            }
            steps[person][person] = 0;
        }

        int stepsBetween(int from, int to) {
            return from == NONE ? APART : steps[from][to];
        }

        int degree(int one, int other) {
            int fewest = APART;
            for (int common = 0; common < MOST_PERSONS; common++) {
                fewest = Math.min(fewest, steps[one][common] + steps[other][common]);
            }
            return fewest;
        }

        boolean inLine(int one, int other) {
            int straight = Math.min(steps[one][other], steps[other][one]);
            return straight < APART && straight == degree(one, other);
        }

        int ancestorAt(int person, int place) {
            int left = place;
            for (int distance = 1; distance < MOST_PERSONS; distance++) {
                for (int number = 0; number < MOST_PERSONS; number++) {
                    if (steps[person][number] == distance) {
                        if (left == 0) {
                            return number;
                        }
                        left--;
                    }
                }
            }
            return NONE;
        }
    }

    private static final class Vow {
        final int one;
        final int other;
        final int place;
        final int day;
        final int lasting;
        boolean lacksForm;
        int status = STANDS;
        int turned = NONE;

        Vow(int one, int other, int place, int day, int lasting, boolean lacksForm) {
            this.one = one;
            this.other = other;
            this.place = place;
            this.day = day;
            this.lasting = lasting;
            this.lacksForm = lacksForm;
        }

        boolean isOf(int person) {
            return person == one || person == other;
        }

        int partnerOf(int person) {
            return person == one ? other : one;
        }

        boolean bindsOn(int asked) {
            return day <= asked && status != NULL && (status == STANDS || asked < turned);
        }

        void turn(int newStatus, int onDay) {
            status = newStatus;
            turned = onDay;
        }
    }

    private static final class Cause {
        final int vowNumber;
        int doubted;
        int status = OPEN;
        int instance = 1;
        final int[] weights = new int[GROUNDS];
        final int[] votes = new int[JUDGES];
        final int[] sentences = new int[INSTANCES];

        Cause(int vowNumber, int doubted) {
            this.vowNumber = vowNumber;
            this.doubted = doubted;
            Arrays.fill(votes, NONE);
            Arrays.fill(sentences, NONE);
        }

        boolean isOver() {
            return status == NULLIFIED || status == REFUSED;
        }

        int provedGrounds() {
            int proved = 0;
            for (int ground = 0; ground < GROUNDS; ground++) {
                if (weights[ground] >= PROVED) {
                    proved |= 1 << ground;
                }
            }
            return proved & doubted;
        }

        int votesCast() {
            int cast = 0;
            for (int judge = 0; judge < JUDGES; judge++) {
                if (votes[judge] != NONE) {
                    cast++;
                }
            }
            return cast;
        }

        int majority() {
            return (votes[0] & votes[1]) | (votes[0] & votes[2]) | (votes[1] & votes[2]);
        }

        void conclude(int grounds) {
            switch (instance) {
                case 1:
                    concludeFirst(grounds);
                    break;
                case 2:
                    concludeSecond(grounds);
                    break;
                default:
                    concludeThird(grounds);
                    break;
            }
        }

        void concludeFirst(int grounds) {
            sentences[0] = grounds;
            if (grounds == 0) {
                status = REFUSED;
            } else {
                reopen();
            }
        }

        void concludeSecond(int grounds) {
            sentences[1] = grounds;
            if (alike(grounds, sentences[0])) {
                status = grounds != 0 ? NULLIFIED : REFUSED;
            } else {
                reopen();
            }
        }

        void concludeThird(int grounds) {
            sentences[2] = grounds;
            boolean likeEarlier = alike(grounds, sentences[0]) || alike(grounds, sentences[1]);
            status = grounds != 0 && likeEarlier ? NULLIFIED : REFUSED;
        }

        void reopen() {
            instance++;
            status = OPEN;
            Arrays.fill(votes, NONE);
        }

        static boolean alike(int grounds, int others) {
            if (grounds == 0 && others == 0) {
                return true;
            }
            boolean bothOfLikeEffect = (grounds & CONDITION_AND_FEIGNED) != 0
                    && (others & CONDITION_AND_FEIGNED) != 0;
            return (grounds & others) != 0 || bothOfLikeEffect;
        }
    }
}
