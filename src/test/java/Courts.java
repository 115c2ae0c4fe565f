/** Courts to begin a test with, and the steps that many tests take. */
final class Courts {
    /** An age at which nobody is too young. */
    static final int GROWN = 9000;

    private Courts() {
    }

    /** Persons who are not kin, grown, of the rite 0; each at home at the place of the own number, up to 7. */
    static VowCourt with(int persons) {
        VowCourt court = new VowCourt();
        for (int number = 0; number < persons; number++) {
            court.person(GROWN, -1, -1, Math.min(number, 7));
        }
        return court;
    }

    /** The vow 0 of the persons 0 and 1 at the place 3, which lacks its form; and persons behind them. */
    static VowCourt withVow(int persons) {
        VowCourt court = with(persons);
        court.vow(0, 1, 3, 0);
        return court;
    }

    /** The vow 0, and the cause 0 about it, with a doubt of which each ground was proved with 10. */
    static VowCourt withCause(int doubt) {
        VowCourt court = withVow(4);
        court.cause(0, 3, doubt, false);
        prove(court, 0, doubt);
        return court;
    }

    static void prove(VowCourt court, int cause, int grounds) {
        for (int ground = 0; ground < 7; ground++) {
            if ((grounds & (1 << ground)) != 0) {
                court.proof(cause, ground, 10);
            }
        }
    }

    /** Publishes, lets all judges vote for the same grounds, and gives the sentence. */
    static int judge(VowCourt court, int cause, int grounds) {
        court.publish(cause);
        return judgePublished(court, cause, grounds);
    }

    static int judgePublished(VowCourt court, int cause, int grounds) {
        for (int judge = 0; judge < 3; judge++) {
            court.vote(cause, judge, grounds);
        }
        return court.sentence(cause);
    }
}
