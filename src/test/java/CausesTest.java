/** Promises 15 to 22, and what "Causes" says behind them. */
public final class CausesTest {
    private static final Check CHECK = new Check("CausesTest");

    public static void main(String[] args) {
        promise15Cause();
        promise15CauseOfWhichVow();
        promise15AtMost30();
        promise16Doubt();
        promise17Proof();
        promise17WeightTogether();
        promise18Publish();
        promise19Vote();
        promise20SentenceIsRefused();
        promise20SentenceIsOfTwo();
        promise20FirstInstance();
        promise20SecondInstance();
        promise20ThirdInstance();
        promise20LikeEffect();
        promise20VowIsNull();
        promise21Appeal();
        promise21AppealIsRefused();
        promise22Pass();
        CHECK.finish();
    }

    private static void promise15Cause() {
        VowCourt court = Courts.withVow(4);
        CHECK.fails(court, "a place that has it not", Check.STATE, () -> court.cause(0, 2, 1, false));
        CHECK.is("any with leave", court.cause(0, 2, 127, true), 0);
        CHECK.is("open", court.causeOf(0, 0), VowCourt.OPEN);
        CHECK.is("first instance", court.causeOf(0, 1), 1);
        CHECK.is("the doubt", court.causeOf(0, 2), 127);
        CHECK.fails(court, "another cause is open", Check.STATE, () -> court.cause(0, 3, 1, false));
        court.publish(0);
        CHECK.fails(court, "another cause is published", Check.STATE, () -> court.cause(0, 3, 1, true));
        Courts.judgePublished(court, 0, 0);
        CHECK.is("the other is over", court.cause(0, 0, 1, false), 1);
        court.vow(2, 3, 0, 0);
        CHECK.is("of another vow", court.cause(1, 0, 1, false), 2);
        CHECK.fails(court, "no vow, no place", Check.INDEX, () -> court.cause(2, 8, 1, true));
        CHECK.fails(court, "vow -1", Check.INDEX, () -> court.cause(-1, 0, 1, true));
        CHECK.fails(court, "place 8", Check.ARGUMENT, () -> court.cause(0, 8, 1, true));
        CHECK.fails(court, "place -1", Check.ARGUMENT, () -> court.cause(0, -1, 1, true));
        CHECK.fails(court, "doubt 0", Check.ARGUMENT, () -> court.cause(0, 0, 0, true));
        CHECK.fails(court, "doubt 128", Check.ARGUMENT, () -> court.cause(0, 0, 128, true));
        CHECK.fails(court, "doubt -1", Check.ARGUMENT, () -> court.cause(0, 0, -1, true));
    }

    private static void promise15CauseOfWhichVow() {
        VowCourt court = Courts.withVow(4);
        court.vow(2, 3, 3, 0);
        court.vow(2, 3, 3, 0);
        court.grace(1);
        CHECK.fails(court, "a dissolved vow", Check.STATE, () -> court.cause(1, 3, 1, true));
        court.documents(2);
        CHECK.fails(court, "a null vow", Check.STATE, () -> court.cause(2, 3, 1, true));
        court.die(0);
        CHECK.fails(court, "the home of the dead", Check.STATE, () -> court.cause(0, 0, 1, false));
        CHECK.is("an ended vow", court.cause(0, 1, 1, false), 0);
    }

    private static void promise15AtMost30() {
        VowCourt court = Courts.withVow(2);
        for (int number = 0; number < 30; number++) {
            CHECK.is("cause " + number, court.cause(0, 3, 1, false), number);
            Courts.judge(court, number, 0);
        }
        CHECK.fails(court, "a 31st", Check.STATE, () -> court.cause(0, 3, 1, false));
        CHECK.fails(court, "a 31st without a doubt", Check.ARGUMENT, () -> court.cause(0, 3, 0, false));
    }

    private static void promise16Doubt() {
        VowCourt court = Courts.withCause(8);
        CHECK.is("what it was", court.doubt(0, 2), 8);
        CHECK.is("what it is", court.causeOf(0, 2), 2);
        CHECK.fails(court, "a ground not of the doubt", Check.STATE, () -> court.proof(0, 3, 1));
        CHECK.is("another ground", court.proof(0, 1, 6), 6);
        CHECK.is("back", court.doubt(0, 127), 2);
        CHECK.is("what was proved is kept", court.proof(0, 3, 0), 10);
        CHECK.fails(court, "doubt 0", Check.ARGUMENT, () -> court.doubt(0, 0));
        CHECK.fails(court, "doubt 128", Check.ARGUMENT, () -> court.doubt(0, 128));
        CHECK.fails(court, "no cause, no doubt", Check.INDEX, () -> court.doubt(1, 0));
        CHECK.fails(court, "cause -1", Check.INDEX, () -> court.doubt(-1, 1));
        CHECK.is("both are proved", court.publish(0), 10);
        CHECK.fails(court, "published", Check.STATE, () -> court.doubt(0, 1));
        Courts.judgePublished(court, 0, 8);
        CHECK.fails(court, "open in the second instance", Check.STATE, () -> court.doubt(0, 1));
        VowCourt refused = Courts.withCause(8);
        Courts.judge(refused, 0, 0);
        CHECK.fails(refused, "refused in the first instance", Check.STATE, () -> refused.doubt(0, 1));
    }

    private static void promise17Proof() {
        VowCourt court = Courts.withVow(2);
        court.cause(0, 3, 1 + 64, false);
        CHECK.is("the first", court.proof(0, 0, 10), 10);
        CHECK.is("together", court.proof(0, 0, -3), 7);
        CHECK.is("another ground", court.proof(0, 6, -10), -10);
        CHECK.fails(court, "weight 11", Check.ARGUMENT, () -> court.proof(0, 0, 11));
        CHECK.fails(court, "weight -11", Check.ARGUMENT, () -> court.proof(0, 0, -11));
        CHECK.fails(court, "ground 7", Check.ARGUMENT, () -> court.proof(0, 7, 0));
        CHECK.fails(court, "ground -1", Check.ARGUMENT, () -> court.proof(0, -1, 0));
        CHECK.fails(court, "not of the doubt", Check.STATE, () -> court.proof(0, 1, 0));
        CHECK.fails(court, "no cause, no ground", Check.INDEX, () -> court.proof(1, 7, 0));
        CHECK.fails(court, "cause -1", Check.INDEX, () -> court.proof(-1, 0, 0));
        CHECK.is("as ahead of refusals", court.proof(0, 0, 0), 7);
        court.publish(0);
        CHECK.fails(court, "published", Check.STATE, () -> court.proof(0, 0, 1));
        Courts.judgePublished(court, 0, 1);
        CHECK.is("on in the second instance", court.proof(0, 0, 1), 8);
        Courts.judge(court, 0, 0);
        CHECK.is("on in the third instance", court.proof(0, 0, 1), 9);
        Courts.judge(court, 0, 0);
        CHECK.fails(court, "refused", Check.STATE, () -> court.proof(0, 0, 1));
    }

    private static void promise17WeightTogether() {
        VowCourt court = Courts.withVow(2);
        court.cause(0, 3, 3, false);
        for (int step = 1; step <= 100; step++) {
            CHECK.is("up", court.proof(0, 0, 10), 10 * step);
            CHECK.is("down", court.proof(0, 1, -10), -10 * step);
        }
        CHECK.fails(court, "above 1000", Check.STATE, () -> court.proof(0, 0, 1));
        CHECK.fails(court, "below -1000", Check.STATE, () -> court.proof(0, 1, -1));
        CHECK.is("down again", court.proof(0, 0, -1), 999);
        CHECK.fails(court, "above 1000 again", Check.STATE, () -> court.proof(0, 0, 2));
        CHECK.is("up again", court.proof(0, 1, 1), -999);
        CHECK.fails(court, "below -1000 again", Check.STATE, () -> court.proof(0, 1, -2));
    }

    private static void promise18Publish() {
        VowCourt court = Courts.withVow(2);
        court.cause(0, 3, 15, false);
        court.proof(0, 0, 5);
        court.proof(0, 1, 6);
        court.proof(0, 2, 10);
        court.proof(0, 2, -5);
        court.proof(0, 3, 3);
        court.proof(0, 3, 3);
        court.doubt(0, 7);
        CHECK.is("proved, and of the doubt", court.publish(0), 2);
        CHECK.is("published", court.causeOf(0, 0), VowCourt.PUBLISHED);
        CHECK.fails(court, "again", Check.STATE, () -> court.publish(0));
        Courts.judgePublished(court, 0, 0);
        CHECK.fails(court, "refused", Check.STATE, () -> court.publish(0));
        CHECK.fails(court, "no cause", Check.INDEX, () -> court.publish(1));
        CHECK.fails(court, "cause -1", Check.INDEX, () -> court.publish(-1));
    }

    private static void promise19Vote() {
        VowCourt court = Courts.withCause(3);
        court.doubt(0, 5);
        CHECK.fails(court, "not published", Check.STATE, () -> court.vote(0, 0, 0));
        court.publish(0);
        CHECK.is("none yet", court.causeOf(0, 6), 0);
        CHECK.is("the last judge", court.vote(0, 2, 1), 1);
        CHECK.fails(court, "the same judge", Check.STATE, () -> court.vote(0, 2, 0));
        CHECK.fails(court, "proved, but not of the doubt", Check.STATE, () -> court.vote(0, 0, 2));
        CHECK.fails(court, "of the doubt, but not proved", Check.STATE, () -> court.vote(0, 0, 5));
        CHECK.is("for no ground", court.vote(0, 0, 0), 2);
        CHECK.fails(court, "the same judge, for none", Check.STATE, () -> court.vote(0, 0, 0));
        CHECK.fails(court, "judge 3, no grounds", Check.INDEX, () -> court.vote(0, 3, 128));
        CHECK.fails(court, "judge -1", Check.INDEX, () -> court.vote(0, -1, 0));
        CHECK.fails(court, "no cause, no grounds", Check.INDEX, () -> court.vote(1, 1, 128));
        CHECK.fails(court, "cause -1", Check.INDEX, () -> court.vote(-1, 1, 0));
        CHECK.fails(court, "grounds 128", Check.ARGUMENT, () -> court.vote(0, 1, 128));
        CHECK.fails(court, "grounds -1, voted", Check.ARGUMENT, () -> court.vote(0, 0, -1));
        CHECK.is("all", court.vote(0, 1, 1), 3);
        court.sentence(0);
        CHECK.is("none in the second instance", court.causeOf(0, 6), 0);
        court.publish(0);
        CHECK.is("each anew in an instance", court.vote(0, 2, 1), 1);
    }

    private static void promise20SentenceIsRefused() {
        VowCourt court = Courts.withCause(1);
        CHECK.fails(court, "open", Check.STATE, () -> court.sentence(0));
        court.publish(0);
        CHECK.fails(court, "no votes", Check.STATE, () -> court.sentence(0));
        court.vote(0, 0, 1);
        court.vote(0, 1, 1);
        CHECK.fails(court, "two votes", Check.STATE, () -> court.sentence(0));
        court.vote(0, 2, 1);
        court.sentence(0);
        CHECK.fails(court, "open again", Check.STATE, () -> court.sentence(0));
        Courts.judge(court, 0, 1);
        CHECK.fails(court, "nullified", Check.STATE, () -> court.sentence(0));
        CHECK.fails(court, "no cause", Check.INDEX, () -> court.sentence(1));
        CHECK.fails(court, "cause -1", Check.INDEX, () -> court.sentence(-1));
    }

    private static void promise20SentenceIsOfTwo() {
        CHECK.is("for all grounds", sentenceOf(127, 127, 0), 127);
        CHECK.is("two and three", sentenceOf(1 + 2, 2 + 4, 1 + 2 + 8), 1 + 2);
        CHECK.is("first and second", sentenceOf(1, 1, 0), 1);
        CHECK.is("first and third", sentenceOf(1, 0, 1), 1);
        CHECK.is("second and third", sentenceOf(0, 1, 1), 1);
        CHECK.is("one each", sentenceOf(1, 2, 4), 0);
        CHECK.is("like effect is not the same ground", sentenceOf(32, 64, 0), 0);
    }

    private static int sentenceOf(int first, int second, int third) {
        VowCourt court = Courts.withCause(127);
        court.publish(0);
        court.vote(0, 0, first);
        court.vote(0, 1, second);
        court.vote(0, 2, third);
        int grounds = court.sentence(0);
        CHECK.is("the sentence is kept", court.causeOf(0, 3), grounds);
        return grounds;
    }

    private static void promise20FirstInstance() {
        VowCourt court = Courts.withCause(3);
        CHECK.is("without a ground", Courts.judge(court, 0, 0), 0);
        isCause(court, VowCourt.REFUSED, 1, 0, -1, -1, 3);
        VowCourt other = Courts.withCause(3);
        CHECK.is("with a ground", Courts.judge(other, 0, 2), 2);
        isCause(other, VowCourt.OPEN, 2, 2, -1, -1, 0);
        CHECK.is("the vow stands", other.vowOf(0, 0), VowCourt.STANDS);
        CHECK.is("proofs go on", other.publish(0), 3);
    }

    private static void promise20SecondInstance() {
        VowCourt like = judged(2, 2 + 1, -1);
        isCause(like, VowCourt.NULLIFIED, 2, 2, 3, -1, 3);
        VowCourt bothNone = judged(0, 0, -1);
        isCause(bothNone, VowCourt.REFUSED, 2, 0, 0, -1, 3);
        VowCourt onlyFirst = judged(2, 0, -1);
        isCause(onlyFirst, VowCourt.OPEN, 3, 2, 0, -1, 0);
        VowCourt onlySecond = judged(0, 4, -1);
        isCause(onlySecond, VowCourt.OPEN, 3, 0, 4, -1, 0);
        VowCourt others = judged(2, 4, -1);
        isCause(others, VowCourt.OPEN, 3, 2, 4, -1, 0);
    }

    private static void promise20ThirdInstance() {
        VowCourt likeFirst = judged(2, 0, 2);
        isCause(likeFirst, VowCourt.NULLIFIED, 3, 2, 0, 2, 3);
        VowCourt likeSecond = judged(0, 4, 4);
        isCause(likeSecond, VowCourt.NULLIFIED, 3, 0, 4, 4, 3);
        VowCourt likeNone = judged(2, 4, 8);
        isCause(likeNone, VowCourt.REFUSED, 3, 2, 4, 8, 3);
        CHECK.is("the vow stands", likeNone.vowOf(0, 0), VowCourt.STANDS);
        VowCourt without = judged(2, 0, 0);
        isCause(without, VowCourt.REFUSED, 3, 2, 0, 0, 3);
        VowCourt withoutLike = judged(2, 4, 0);
        isCause(withoutLike, VowCourt.REFUSED, 3, 2, 4, 0, 3);
        CHECK.fails(without, "refused for good", Check.STATE, () -> without.appeal(0));
        CHECK.fails(without, "published no more", Check.STATE, () -> without.publish(0));
    }

    private static void promise20LikeEffect() {
        int[] grounds = {1, 2, 4, 8, 16, 32, 64};
        for (int first : grounds) {
            for (int second : grounds) {
                boolean like = first == second || (first >= 32 && second >= 32);
                VowCourt court = judged(first, second, -1);
                CHECK.is("like " + first + " and " + second,
                        court.causeOf(0, 0), like ? VowCourt.NULLIFIED : VowCourt.OPEN);
            }
        }
        VowCourt third = judged(32, 0, 64);
        isCause(third, VowCourt.NULLIFIED, 3, 32, 0, 64, 3);
    }

    private static void promise20VowIsNull() {
        VowCourt court = Courts.withCause(2);
        court.pass(5);
        Courts.judge(court, 0, 2);
        court.die(0);
        CHECK.is("it ended meanwhile", court.vowOf(0, 0), VowCourt.ENDED);
        court.pass(5);
        Courts.judge(court, 0, 2);
        CHECK.is("null", court.vowOf(0, 0), VowCourt.NULL);
        CHECK.is("found today", court.vowOf(0, 2), 10);
        CHECK.is("never bound", court.bound(0, 3), -1);
        CHECK.fails(court, "a cause of it", Check.STATE, () -> court.cause(0, 3, 1, true));
        CHECK.fails(court, "an appeal", Check.STATE, () -> court.appeal(0));
    }

    private static void promise21Appeal() {
        VowCourt court = Courts.withCause(2);
        Courts.judge(court, 0, 0);
        court.appeal(0);
        isCause(court, VowCourt.OPEN, 2, 0, -1, -1, 0);
        CHECK.fails(court, "again", Check.STATE, () -> court.appeal(0));
        CHECK.is("proofs go on", court.proof(0, 1, 0), 10);
        CHECK.fails(court, "the doubt stays", Check.STATE, () -> court.doubt(0, 4));
        CHECK.fails(court, "it is not over", Check.STATE, () -> court.grace(0));
        Courts.judge(court, 0, 0);
        CHECK.fails(court, "refused in the second instance", Check.STATE, () -> court.appeal(0));
        VowCourt ended = Courts.withCause(2);
        Courts.judge(ended, 0, 0);
        ended.die(1);
        ended.appeal(0);
        CHECK.is("of an ended vow", ended.causeOf(0, 1), 2);
    }

    private static void promise21AppealIsRefused() {
        VowCourt court = Courts.withCause(2);
        CHECK.fails(court, "open", Check.STATE, () -> court.appeal(0));
        court.publish(0);
        CHECK.fails(court, "published", Check.STATE, () -> court.appeal(0));
        Courts.judgePublished(court, 0, 0);
        court.cause(0, 3, 2, false);
        CHECK.fails(court, "another cause is open", Check.STATE, () -> court.appeal(0));
        Courts.judge(court, 1, 0);
        court.appeal(0);
        CHECK.fails(court, "another cause is open in the second instance", Check.STATE, () -> court.appeal(1));
        Courts.judge(court, 0, 0);
        court.documents(0);
        CHECK.fails(court, "the vow is null", Check.STATE, () -> court.appeal(1));
        CHECK.fails(court, "no cause", Check.INDEX, () -> court.appeal(2));
        CHECK.fails(court, "cause -1", Check.INDEX, () -> court.appeal(-1));
        VowCourt dissolved = Courts.withCause(2);
        Courts.judge(dissolved, 0, 0);
        dissolved.grace(0);
        CHECK.fails(dissolved, "the vow is dissolved", Check.STATE, () -> dissolved.appeal(0));
    }

    private static void promise22Pass() {
        VowCourt court = Courts.with(2);
        CHECK.is("a day", court.pass(1), 1);
        CHECK.is("the most", court.pass(10000), 10001);
        CHECK.fails(court, "days 0", Check.ARGUMENT, () -> court.pass(0));
        CHECK.fails(court, "days -1", Check.ARGUMENT, () -> court.pass(-1));
        CHECK.fails(court, "days 10001", Check.ARGUMENT, () -> court.pass(10001));
        court.vow(0, 1, 0, 0);
        CHECK.is("the day of a vow then", court.vowOf(0, 1), 10001);
        CHECK.is("on", court.pass(2), 10003);
    }

    /** A cause with all proofs behind sentences of up to three instances; -1 for no third one. */
    private static VowCourt judged(int first, int second, int third) {
        VowCourt court = Courts.withCause(127);
        Courts.judge(court, 0, first);
        if (first == 0) {
            court.appeal(0);
        }
        Courts.judge(court, 0, second);
        if (third != -1) {
            Courts.judge(court, 0, third);
        }
        return court;
    }

    private static void isCause(VowCourt court, int status, int instance, int... sentencesAndVotes) {
        CHECK.is("status", court.causeOf(0, 0), status);
        CHECK.is("instance", court.causeOf(0, 1), instance);
        for (int at = 0; at < sentencesAndVotes.length; at++) {
            CHECK.is("thing " + (3 + at), court.causeOf(0, 3 + at), sentencesAndVotes[at]);
        }
        int vow = status == VowCourt.NULLIFIED ? VowCourt.NULL : VowCourt.STANDS;
        CHECK.is("its vow", court.vowOf(0, 0), vow);
    }
}
