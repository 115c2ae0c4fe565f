import java.util.ArrayList;
import java.util.HashMap;
import java.util.HashSet;
import java.util.TreeSet;

/**
 * The document read once more, and held in another way than the class holds it: kin by the sets of persons at each
 * step, vows and causes by what happened to them, each answer found anew. Runs compare it with the class.
 */
public final class Reading {
    static final class Person {
        int born, father, mother, home, rite, death = -1;
        boolean ordered, banned;
    }

    static final class Vow {
        int one, other, place, day, kept, ended = -1, dissolved = -1, found = -1;
        boolean needsForm, hasForm;
    }

    static final class Cause {
        int vow, doubt;
        boolean published, over, nullified;
        final ArrayList<int[]> proofs = new ArrayList<>();
        final ArrayList<Integer> sentences = new ArrayList<>();
        final HashMap<Integer, Integer> votes = new HashMap<>();

        /** The instance is the one of the last sentence, if that was not followed by another instance. */
        int instance() {
            return over ? sentences.size() : sentences.size() + 1;
        }
    }

    final ArrayList<Person> persons = new ArrayList<>();
    final ArrayList<Vow> vows = new ArrayList<>();
    final ArrayList<Cause> causes = new ArrayList<>();
    private final HashSet<String> dispensed = new HashSet<>();
    private final HashMap<String, int[]> faculties = new HashMap<>();
    private final HashSet<Integer> errors = new HashSet<>();
    int today = 0;

    // ---- persons

    public int person(int age, int father, int mother, int home) {
        index(father >= -1 && father < persons.size() && mother >= -1 && mother < persons.size());
        argument(!(father == mother && father != -1));
        argument(age >= 0 && age <= 36000 && home >= 0 && home <= 7);
        possible(persons.size() != 24);
        Person told = new Person();
        told.born = today - age;
        told.father = father;
        told.mother = mother;
        told.home = home;
        persons.add(told);
        return persons.size() - 1;
    }

    public int rite(int person, int rite) {
        isPerson(person);
        argument(rite == 0 || rite == 1 || rite == 2);
        int was = persons.get(person).rite;
        persons.get(person).rite = rite;
        return was;
    }

    public int home(int person, int home) {
        isPerson(person);
        argument(home >= 0 && home <= 7);
        int was = persons.get(person).home;
        persons.get(person).home = home;
        return was;
    }

    public void order(int person) {
        isPerson(person);
        possible(isAlive(person));
        possible(!persons.get(person).ordered);
        persons.get(person).ordered = true;
    }

    public boolean ban(int person) {
        isPerson(person);
        return persons.get(person).banned = !persons.get(person).banned;
    }

    public int die(int person) {
        isPerson(person);
        possible(isAlive(person));
        persons.get(person).death = today;
        int count = 0;
        for (Vow vow : vows) {
            if (statusOf(vow) == 0 && (vow.one == person || vow.other == person)) {
                vow.ended = today;
                count++;
            }
        }
        return count;
    }

    // ---- vows

    public void dispense(int one, int other, int kind) {
        isPerson(one);
        isPerson(other);
        argument(one != other);
        argument(kind == 1 || kind == 2 || kind == 8);
        possible(hinders(one, other).contains(kind));
        int youngest = Math.min(ageOf(one), ageOf(other));
        int kin = kin(one, other);
        possible(kind != 1 || youngest >= 14 * 360);
        possible(kind != 2 || kin % 100 == 0 && kin >= 300);
        possible(!isDispensed(one, other, kind));
        dispensed.add(pair(one, other) + ":" + kind);
    }

    public void faculty(int witness, int place, int days) {
        argument(witness >= 0 && witness < 6);
        argument(place >= 0 && place < 8);
        argument(days >= 0 && days <= 10000);
        faculties.put(witness + "@" + place, new int[] {today, days});
    }

    public boolean error(int place) {
        argument(place >= 0 && place < 8);
        if (!errors.remove(place)) {
            errors.add(place);
        }
        return errors.contains(place);
    }

    public int vow(int one, int other, int place, int witness) {
        isPerson(one);
        isPerson(other);
        argument(one != other && place >= 0 && place < 8 && witness >= 0 && witness < 6);
        possible(vows.size() != 30);
        possible(isAlive(one) && isAlive(other));
        possible(!persons.get(one).banned && !persons.get(other).banned);
        Vow made = new Vow();
        made.one = one;
        made.other = other;
        made.place = place;
        made.day = today;
        for (int kind : hinders(one, other)) {
            made.kept += isDispensed(one, other, kind) ? 0 : kind;
        }
        made.needsForm = persons.get(one).rite == 0 || persons.get(other).rite == 0;
        int[] faculty = faculties.getOrDefault(witness + "@" + place, new int[] {0, 0});
        made.hasForm = errors.contains(place) || today - faculty[0] < faculty[1];
        vows.add(made);
        return vows.size() - 1;
    }

    public void heal(int vow) {
        isVow(vow);
        Vow healed = vows.get(vow);
        possible(healed.needsForm && !healed.hasForm);
        possible(isAlive(healed.one) && isAlive(healed.other));
        possible(statusOf(healed) == 0);
        possible(hindered(vow) == 0);
        healed.hasForm = true;
    }

    public void grace(int vow) {
        isVow(vow);
        possible(statusOf(vows.get(vow)) == 0);
        possible(openCausesOf(vow) == 0);
        vows.get(vow).dissolved = today;
    }

    public int documents(int vow) {
        isVow(vow);
        Vow told = vows.get(vow);
        possible(statusOf(told) == 0 || statusOf(told) == 3);
        possible(openCausesOf(vow) == 0);
        int faults = hindered(vow) + 16 * vowOf(vow, 3);
        possible(faults > 0);
        told.found = today;
        return faults;
    }

    // ---- causes

    public int cause(int vow, int place, int doubt, boolean byLeave) {
        isVow(vow);
        argument(place >= 0 && place < 8);
        argument(doubt >= 1 && doubt <= 127);
        possible(causes.size() != 30);
        possible(statusOf(vows.get(vow)) == 0 || statusOf(vows.get(vow)) == 3);
        possible(openCausesOf(vow) == 0);
        possible(byLeave || hasCause(vow, place));
        Cause opened = new Cause();
        opened.vow = vow;
        opened.doubt = doubt;
        causes.add(opened);
        return causes.size() - 1;
    }

    public int doubt(int cause, int doubt) {
        isCause(cause);
        argument(doubt >= 1 && doubt <= 127);
        Cause changed = causes.get(cause);
        possible(isOpen(changed) && changed.sentences.isEmpty());
        int was = changed.doubt;
        changed.doubt = doubt;
        return was;
    }

    public int proof(int cause, int ground, int weight) {
        isCause(cause);
        argument(ground >= 0 && ground <= 6 && weight >= -10 && weight <= 10);
        Cause told = causes.get(cause);
        possible(isOpen(told));
        possible(setOf(told.doubt).contains(ground));
        int together = weightOf(told, ground) + weight;
        possible(together >= -1000 && together <= 1000);
        told.proofs.add(new int[] {ground, weight});
        return together;
    }

    public int publish(int cause) {
        isCause(cause);
        possible(isOpen(causes.get(cause)));
        causes.get(cause).published = true;
        return sumOf(votable(causes.get(cause)));
    }

    public int vote(int cause, int judge, int grounds) {
        isCause(cause);
        index(judge >= 0 && judge <= 2);
        argument(grounds >= 0 && grounds <= 127);
        Cause voted = causes.get(cause);
        possible(voted.published && !voted.over);
        possible(!voted.votes.containsKey(judge));
        possible(votable(voted).containsAll(setOf(grounds)));
        voted.votes.put(judge, grounds);
        return voted.votes.size();
    }

    public int sentence(int cause) {
        isCause(cause);
        Cause judged = causes.get(cause);
        possible(judged.published && !judged.over && judged.votes.size() == 3);
        TreeSet<Integer> found = new TreeSet<>();
        for (int ground = 0; ground < 7; ground++) {
            int votes = 0;
            for (int grounds : judged.votes.values()) {
                votes += setOf(grounds).contains(ground) ? 1 : 0;
            }
            if (votes >= 2) {
                found.add(ground);
            }
        }
        follow(judged, found);
        return sumOf(found);
    }

    private void follow(Cause judged, TreeSet<Integer> found) {
        boolean like = false;
        for (int earlier : judged.sentences) {
            like |= areLike(found, setOf(earlier));
        }
        judged.sentences.add(sumOf(found));
        int instance = judged.sentences.size();
        boolean goesOn = instance == 1 ? !found.isEmpty() : instance == 2 && !like;
        if (goesOn) {
            judged.published = false;
            judged.votes.clear();
            return;
        }
        judged.over = true;
        judged.nullified = instance > 1 && like && !found.isEmpty();
        if (judged.nullified) {
            vows.get(judged.vow).found = today;
        }
    }

    public void appeal(int cause) {
        isCause(cause);
        Cause appealed = causes.get(cause);
        possible(appealed.over && !appealed.nullified && appealed.sentences.size() == 1);
        int status = statusOf(vows.get(appealed.vow));
        possible(status == 0 || status == 3);
        possible(openCausesOf(appealed.vow) == 0);
        appealed.over = false;
        appealed.published = false;
        appealed.votes.clear();
    }

    public int pass(int days) {
        argument(days >= 1 && days <= 10000);
        today += days;
        return today;
    }

    // ---- asking

    public int kin(int one, int other) {
        isPerson(one);
        isPerson(other);
        ArrayList<TreeSet<Integer>> first = levelsOf(one);
        ArrayList<TreeSet<Integer>> second = levelsOf(other);
        for (int degree = 0; degree < first.size() + second.size(); degree++) {
            boolean kin = false;
            boolean inLine = false;
            for (int steps = 0; steps <= degree; steps++) {
                if (meet(first, steps, second, degree - steps)) {
                    kin = true;
                    inLine |= steps == 0 || steps == degree;
                }
            }
            if (kin) {
                return 100 * degree + (inLine ? 1 : 0);
            }
        }
        return -1;
    }

    public int ancestor(int person, int place) {
        isPerson(person);
        index(place >= 0);
        ArrayList<Integer> found = new ArrayList<>();
        for (TreeSet<Integer> level : levelsOf(person)) {
            for (int number : level) {
                if (number != person && !found.contains(number)) {
                    found.add(number);
                }
            }
        }
        return place < found.size() ? found.get(place) : -1;
    }

    public int hindered(int vow) {
        isVow(vow);
        Vow asked = vows.get(vow);
        for (int number = 0; number < vow; number++) {
            if (binds(number, asked.one, asked.day) || binds(number, asked.other, asked.day)) {
                return asked.kept + 4;
            }
        }
        return asked.kept;
    }

    public int vowOf(int vow, int what) {
        isVow(vow);
        argument(what >= 0 && what <= 4);
        Vow asked = vows.get(vow);
        int[] days = {-1, asked.found, asked.dissolved, asked.ended};
        int[] all = {statusOf(asked), asked.day, days[statusOf(asked)],
            asked.needsForm && !asked.hasForm ? 1 : 0, asked.place};
        return all[what];
    }

    public int bound(int person, int day) {
        isPerson(person);
        argument(day >= 0 && day <= 1000000);
        for (int number = 0; number < vows.size(); number++) {
            if (binds(number, person, day)) {
                return number;
            }
        }
        return -1;
    }

    public boolean hasCause(int vow, int place) {
        isVow(vow);
        argument(place >= 0 && place < 8);
        Vow asked = vows.get(vow);
        TreeSet<Integer> places = new TreeSet<>();
        places.add(asked.place);
        for (int person : new int[] {asked.one, asked.other}) {
            if (isAlive(person)) {
                places.add(persons.get(person).home);
            }
        }
        return places.contains(place);
    }

    public int causeOf(int cause, int what) {
        isCause(cause);
        argument(what >= 0 && what <= 6);
        Cause asked = causes.get(cause);
        if (what >= 3 && what <= 5) {
            return what - 3 < asked.sentences.size() ? asked.sentences.get(what - 3) : -1;
        }
        int status = asked.over ? (asked.nullified ? 2 : 3) : (asked.published ? 1 : 0);
        return what == 0 ? status : what == 1 ? asked.instance() : what == 2 ? asked.doubt : asked.votes.size();
    }

    public char state(int person, int day, int place) {
        isPerson(person);
        index(place >= 0);
        argument(day >= 0 && day <= 1000000);
        int vow = bound(person, day);
        String text = "free";
        if (vow >= 0) {
            int both = vows.get(vow).one + vows.get(vow).other;
            text = "bound by " + vow + " to " + (both - person);
        }
        return place < text.length() ? text.charAt(place) : 0;
    }

    // ---- what the calls share

    private static void index(boolean exists) {
        if (!exists) {
            throw new IndexOutOfBoundsException();
        }
    }

    private static void argument(boolean inRange) {
        if (!inRange) {
            throw new IllegalArgumentException();
        }
    }

    private static void possible(boolean now) {
        if (!now) {
            throw new IllegalStateException();
        }
    }

    private void isPerson(int number) {
        index(number >= 0 && number < persons.size());
    }

    private void isVow(int number) {
        index(number >= 0 && number < vows.size());
    }

    private void isCause(int number) {
        index(number >= 0 && number < causes.size());
    }

    boolean isAlive(int person) {
        return persons.get(person).death == -1;
    }

    private int ageOf(int person) {
        return today - persons.get(person).born;
    }

    private static String pair(int one, int other) {
        return Math.min(one, other) + "&" + Math.max(one, other);
    }

    private boolean isDispensed(int one, int other, int kind) {
        return dispensed.contains(pair(one, other) + ":" + kind);
    }

    /** AGE, KIN and ORDER as they would hinder a vow of today, dispensed or not. */
    private TreeSet<Integer> hinders(int one, int other) {
        TreeSet<Integer> kinds = new TreeSet<>();
        if (ageOf(one) < 16 * 360 || ageOf(other) < 16 * 360) {
            kinds.add(1);
        }
        int kin = kin(one, other);
        if (kin >= 0 && (kin % 100 == 1 || kin <= 400)) {
            kinds.add(2);
        }
        if (persons.get(one).ordered || persons.get(other).ordered) {
            kinds.add(8);
        }
        return kinds;
    }

    /** The persons to whom a line of so many steps goes, by these steps. */
    private ArrayList<TreeSet<Integer>> levelsOf(int person) {
        ArrayList<TreeSet<Integer>> levels = new ArrayList<>();
        TreeSet<Integer> level = new TreeSet<>();
        level.add(person);
        while (!level.isEmpty()) {
            levels.add(level);
            TreeSet<Integer> next = new TreeSet<>();
            for (int number : level) {
                next.add(persons.get(number).father);
                next.add(persons.get(number).mother);
            }
            next.remove(-1);
            level = next;
        }
        return levels;
    }

    private static boolean meet(ArrayList<TreeSet<Integer>> first, int steps,
            ArrayList<TreeSet<Integer>> second, int others) {
        if (steps >= first.size() || others >= second.size()) {
            return false;
        }
        TreeSet<Integer> common = new TreeSet<>(first.get(steps));
        common.retainAll(second.get(others));
        return !common.isEmpty();
    }

    static int statusOf(Vow vow) {
        if (vow.found >= 0) {
            return 1;
        }
        return vow.dissolved >= 0 ? 2 : vow.ended >= 0 ? 3 : 0;
    }

    private boolean binds(int number, int person, int day) {
        Vow vow = vows.get(number);
        boolean ofThem = vow.one == person || vow.other == person;
        boolean loosed = vow.dissolved >= 0 && vow.dissolved <= day || vow.ended >= 0 && vow.ended <= day;
        return ofThem && vow.day <= day && vow.found < 0 && !loosed;
    }

    private int openCausesOf(int vow) {
        int count = 0;
        for (Cause cause : causes) {
            count += cause.vow == vow && !cause.over ? 1 : 0;
        }
        return count;
    }

    private static boolean isOpen(Cause cause) {
        return !cause.published && !cause.over;
    }

    private static int weightOf(Cause cause, int ground) {
        int sum = 0;
        for (int[] proof : cause.proofs) {
            sum += proof[0] == ground ? proof[1] : 0;
        }
        return sum;
    }

    TreeSet<Integer> votable(Cause cause) {
        TreeSet<Integer> found = new TreeSet<>();
        for (int ground : setOf(cause.doubt)) {
            if (weightOf(cause, ground) >= 6) {
                found.add(ground);
            }
        }
        return found;
    }

    static TreeSet<Integer> setOf(int sum) {
        TreeSet<Integer> set = new TreeSet<>();
        for (int ground = 0; ground < 7; ground++) {
            if (sum / (1 << ground) % 2 == 1) {
                set.add(ground);
            }
        }
        return set;
    }

    static int sumOf(TreeSet<Integer> set) {
        int sum = 0;
        for (int ground : set) {
            sum += 1 << ground;
        }
        return sum;
    }

    private static boolean areLike(TreeSet<Integer> some, TreeSet<Integer> others) {
        for (int one : some) {
            for (int other : others) {
                if (one == other || Math.min(one, other) == 5 && Math.max(one, other) == 6) {
                    return true;
                }
            }
        }
        return some.isEmpty() && others.isEmpty();
    }
}
