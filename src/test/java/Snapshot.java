/** All that can be asked of a court, as one text. */
final class Snapshot {
    private static final int[] DAYS = {0, 1, 2, 49, 50, 51, 100, 5000, 1000000};

    private Snapshot() {
    }

    static int persons(VowCourt court) {
        int count = 0;
        while (exists(court, 0, count)) {
            count++;
        }
        return count;
    }

    static int vows(VowCourt court) {
        int count = 0;
        while (exists(court, 1, count)) {
            count++;
        }
        return count;
    }

    static int causes(VowCourt court) {
        int count = 0;
        while (exists(court, 2, count)) {
            count++;
        }
        return count;
    }

    static String of(VowCourt court) {
        StringBuilder all = new StringBuilder();
        int persons = persons(court);
        for (int person = 0; person < persons; person++) {
            addPerson(all, court, person, persons);
        }
        int vows = vows(court);
        for (int vow = 0; vow < vows; vow++) {
            addVow(all, court, vow);
        }
        int causes = causes(court);
        for (int cause = 0; cause < causes; cause++) {
            all.append("\ncause ").append(cause);
            for (int what = 0; what <= 6; what++) {
                all.append(' ').append(court.causeOf(cause, what));
            }
        }
        return all.toString();
    }

    static String state(VowCourt court, int person, int day) {
        StringBuilder text = new StringBuilder();
        for (int place = 0; place < 100; place++) {
            char sign = court.state(person, day, place);
            if (sign == 0) {
                break;
            }
            text.append(sign);
        }
        return text.toString();
    }

    private static void addPerson(StringBuilder all, VowCourt court, int person, int persons) {
        all.append("\nperson ").append(person);
        for (int other = 0; other < persons; other++) {
            all.append(' ').append(court.kin(person, other));
        }
        for (int place = 0; place < 24; place++) {
            all.append(' ').append(court.ancestor(person, place));
        }
        for (int day : DAYS) {
            all.append(' ').append(court.bound(person, day)).append(state(court, person, day));
        }
    }

    private static void addVow(StringBuilder all, VowCourt court, int vow) {
        all.append("\nvow ").append(vow).append(' ').append(court.hindered(vow));
        for (int what = 0; what <= 4; what++) {
            all.append(' ').append(court.vowOf(vow, what));
        }
        for (int place = 0; place < 8; place++) {
            all.append(court.hasCause(vow, place) ? '+' : '-');
        }
    }

    private static boolean exists(VowCourt court, int kind, int number) {
        try {
            if (kind == 0) {
                court.kin(number, number);
            } else if (kind == 1) {
                court.hindered(number);
            } else {
                court.causeOf(number, 0);
            }
            return true;
        } catch (IndexOutOfBoundsException e) {
            return false;
        }
    }
}
