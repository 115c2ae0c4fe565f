/** Promises 20, 21 and 29, and what "Causes" says of sentences and instances. */
final class InstanceTests {
    private static final int OPEN = VowCourt.OPEN;
    private static final int PUBLISHED = VowCourt.PUBLISHED;
    private static final int NULLIFIED = VowCourt.NULLIFIED;
    private static final int REFUSED = VowCourt.REFUSED;

    private InstanceTests() {
    }

    static void tell(Suite suite) {
        sentenceOfTwo(suite);
        sentenceIsRefused(suite);
        first(suite);
        second(suite);
        third(suite);
        likeGrounds(suite);
        likeSets(suite);
        vowIsNull(suite);
        appeal(suite);
        appealIsRefused(suite);
        appealAndOthers(suite);
        causeOf(suite);
    }

    private static void sentenceIs(Suite suite, String what, int due, int first, int second, int third) {
        suite.test("promise 20: " + what, () -> Court.inCause(127).does(c -> c.publish(0))
                .votes(0, first, second, third).answers(due, c -> c.sentence(0)).answers(due, c -> c.causeOf(0, 3)));
    }

    private static void sentenceOfTwo(Suite suite) {
        sentenceIs(suite, "all three for all grounds", 127, 127, 127, 127);
        sentenceIs(suite, "the first two for a ground", 1, 1, 1, 0);
        sentenceIs(suite, "the first and the last for a ground", 1, 1, 0, 1);
        sentenceIs(suite, "the last two for a ground", 1, 0, 1, 1);
        sentenceIs(suite, "one alone for a ground", 0, 1, 0, 0);
        sentenceIs(suite, "the second alone for a ground", 0, 0, 1, 0);
        sentenceIs(suite, "the last alone for a ground", 0, 0, 0, 1);
        sentenceIs(suite, "each for another ground", 0, 1, 2, 4);
        sentenceIs(suite, "two for each of some grounds", 1 + 2 + 4, 1 + 2, 2 + 4, 1 + 4 + 8);
        sentenceIs(suite, "grounds of like effect are two grounds", 0, 32, 64, 0);
        sentenceIs(suite, "two for all grounds", 127, 127, 0, 127);
        sentenceIs(suite, "none for a ground", 0, 0, 0, 0);
    }

    private static void sentenceIsRefused(Suite suite) {
        suite.test("promise 20: it is OPEN", () -> Court.inCause(1).illegalState(c -> c.sentence(0)));
        suite.test("promise 20: nobody has voted", () ->
                Court.inCause(1).does(c -> c.publish(0)).illegalState(c -> c.sentence(0)));
        suite.test("promise 20: one has voted", () ->
                Court.inCause(1).does(c -> c.publish(0)).does(c -> c.vote(0, 0, 1)).illegalState(c -> c.sentence(0)));
        for (int at = 0; at < 3; at++) {
            int missing = at;
            suite.test("promise 20: all but the judge " + missing + " have voted", () ->
                    Court.inCause(1).does(c -> c.publish(0)).does(c -> c.vote(0, (missing + 1) % 3, 1))
                            .does(c -> c.vote(0, (missing + 2) % 3, 1)).illegalState(c -> c.sentence(0)));
        }
        suite.test("promise 20: it is OPEN again, votes of the first instance do not count", () ->
                Court.behind(1).illegalState(c -> c.sentence(0)));
        suite.test("promise 20: it is PUBLISHED again, votes of the first instance do not count", () ->
                Court.behind(1).does(c -> c.publish(0)).illegalState(c -> c.sentence(0)));
        suite.test("promise 20: it is PUBLISHED behind an appeal, votes of the first instance do not count", () ->
                Court.behind(0).does(c -> c.appeal(0)).does(c -> c.publish(0)).illegalState(c -> c.sentence(0)));
        suite.test("promise 20: it is PUBLISHED in the third instance, votes of the second do not count", () ->
                Court.behind(1, 0).does(c -> c.publish(0)).illegalState(c -> c.sentence(0)));
        suite.test("promise 20: it is REFUSED in the first instance", () ->
                Court.behind(0).illegalState(c -> c.sentence(0)));
        suite.test("promise 20: it is REFUSED in the second instance", () ->
                Court.behind(0, 0).illegalState(c -> c.sentence(0)));
        suite.test("promise 20: it is REFUSED in the third instance", () ->
                Court.behind(1, 0, 0).illegalState(c -> c.sentence(0)));
        suite.test("promise 20: it is NULLIFIED", () -> Court.behind(1, 1).illegalState(c -> c.sentence(0)));
    }

    private static void becomes(Suite suite, String what, int[] sentences, int... due) {
        suite.test("promise 20: " + what, () -> {
            Court court = Court.behind(sentences).causeIs(0, due[0], due[1], 127);
            for (int at = 0; at < 3; at++) {
                int sentence = at < sentences.length ? sentences[at] : -1;
                int what3 = 3 + at;
                court.answers(sentence, c -> c.causeOf(0, what3));
            }
            court.answers(due[0] == OPEN ? 0 : 3, c -> c.causeOf(0, 6))
                    .answers(due[0] == NULLIFIED ? VowCourt.NULL : VowCourt.STANDS, c -> c.vowOf(0, 0));
        });
    }

    private static int[] row(int... sentences) {
        return sentences;
    }

    private static void first(Suite suite) {
        becomes(suite, "a first sentence that has a ground: OPEN in the second instance", row(2), OPEN, 2);
        becomes(suite, "a first sentence that has all grounds: OPEN in the second instance", row(127), OPEN, 2);
        becomes(suite, "a first sentence without a ground: REFUSED", row(0), REFUSED, 1);
    }

    private static void second(Suite suite) {
        becomes(suite, "a second sentence like the first one, with grounds: NULLIFIED", row(2, 2), NULLIFIED, 2);
        becomes(suite, "a second sentence with one ground of the first one: NULLIFIED", row(3, 6), NULLIFIED, 2);
        becomes(suite, "a second sentence without a ground, like the first one: REFUSED", row(0, 0), REFUSED, 2);
        becomes(suite, "a second sentence without a ground, behind one with: OPEN", row(2, 0), OPEN, 3);
        becomes(suite, "a second sentence with a ground, behind one without: OPEN", row(0, 2), OPEN, 3);
        becomes(suite, "a second sentence with another ground: OPEN", row(2, 4), OPEN, 3);
    }

    private static void third(Suite suite) {
        becomes(suite, "a third sentence like the first one, the second without a ground: NULLIFIED",
                row(2, 0, 2), NULLIFIED, 3);
        becomes(suite, "a third sentence like the second one, the first without a ground: NULLIFIED",
                row(0, 2, 2), NULLIFIED, 3);
        becomes(suite, "a third sentence like the first one, the second with another: NULLIFIED",
                row(2, 4, 2), NULLIFIED, 3);
        becomes(suite, "a third sentence like the second one, the first with another: NULLIFIED",
                row(2, 4, 4), NULLIFIED, 3);
        becomes(suite, "a third sentence like both: NULLIFIED", row(2, 4, 6), NULLIFIED, 3);
        becomes(suite, "a third sentence with a ground, like none: REFUSED", row(2, 4, 8), REFUSED, 3);
        becomes(suite, "a third sentence with a ground, behind one with another: REFUSED", row(2, 0, 4), REFUSED, 3);
        becomes(suite, "a third sentence with a ground, behind an appeal and another: REFUSED",
                row(0, 2, 4), REFUSED, 3);
        becomes(suite, "a third sentence without a ground, like the second one: REFUSED", row(2, 0, 0), REFUSED, 3);
        becomes(suite, "a third sentence without a ground, like the first one: REFUSED", row(0, 2, 0), REFUSED, 3);
        becomes(suite, "a third sentence without a ground, like none: REFUSED", row(2, 4, 0), REFUSED, 3);
        becomes(suite, "a third sentence of like effect to the first one: NULLIFIED", row(32, 0, 64), NULLIFIED, 3);
        becomes(suite, "a third sentence of like effect to the second one: NULLIFIED", row(0, 64, 32), NULLIFIED, 3);
    }

    private static void likeGrounds(Suite suite) {
        for (int one = 0; one < 7; one++) {
            for (int other = 0; other < 7; other++) {
                boolean like = one == other || one >= 5 && other >= 5;
                int instance = like ? 2 : 3;
                becomes(suite, "the grounds " + one + " and " + other + (like ? " are of like effect" : " are not"),
                        row(1 << one, 1 << other), like ? NULLIFIED : OPEN, instance);
            }
        }
    }

    private static void likeSets(Suite suite) {
        becomes(suite, "sets with one ground in common are like", row(1 + 2 + 4, 4 + 8 + 16), NULLIFIED, 2);
        becomes(suite, "sets without a ground in common are not like", row(1 + 2 + 4, 8 + 16), OPEN, 3);
        becomes(suite, "sets with 5 here and 6 there are like", row(1 + 32, 2 + 64), NULLIFIED, 2);
        becomes(suite, "sets with 6 here and 5 there are like", row(1 + 64, 2 + 32), NULLIFIED, 2);
        becomes(suite, "5 and 6 here, neither there, are not like", row(32 + 64, 1 + 2 + 4 + 8 + 16), OPEN, 3);
        becomes(suite, "neither here, 5 and 6 there, are not like", row(1 + 2 + 4 + 8 + 16, 32 + 64), OPEN, 3);
        becomes(suite, "all grounds, and one of them, are like", row(127, 16), NULLIFIED, 2);
        becomes(suite, "5 and 6, and no ground, are not like", row(32 + 64, 0), OPEN, 3);
    }

    private static void vowIsNull(Suite suite) {
        suite.test("promise 20: as it is NULLIFIED, its vow is NULL, today", () ->
                Court.inCause(2).does(c -> c.pass(5)).judges(0, 2).vowIs(0, VowCourt.STANDS, -1).does(c -> c.pass(5))
                        .judges(0, 2).vowIs(0, VowCourt.NULL, 10).answers(-1, c -> c.bound(0, 3)));
        suite.test("promise 20: as it is NULLIFIED in the third instance, its vow is NULL", () ->
                Court.behind(2, 0).does(c -> c.pass(5)).judges(0, 2).vowIs(0, VowCourt.NULL, 5));
        suite.test("promise 20: a vow that has ENDED meanwhile is NULL", () ->
                Court.behind(2).does(c -> c.die(0)).vowIs(0, VowCourt.ENDED, 0).does(c -> c.pass(5)).judges(0, 2)
                        .vowIs(0, VowCourt.NULL, 5));
        suite.test("promise 20: a vow that had ENDED ahead of the cause is NULL", () ->
                Court.vowed().does(c -> c.die(0)).does(c -> c.cause(0, 3, 2, false)).proves(0, 2).judges(0, 2)
                        .judges(0, 2).vowIs(0, VowCourt.NULL, 0));
        suite.test("promise 20: as it is REFUSED, a vow that has ENDED stays so", () ->
                Court.inCause(2).does(c -> c.pass(1)).does(c -> c.die(0)).judges(0, 0).vowIs(0, VowCourt.ENDED, 1));
        suite.test("promise 20: another vow stands", () ->
                Court.behind(2).does(c -> c.vow(0, 2, 0, 0)).judges(0, 2).vowIs(1, VowCourt.STANDS, -1)
                        .answers(0, c -> c.hindered(1)).answers(1, c -> c.bound(0, 0)));
        suite.test("promise 20: a cause of the vow 1 makes that vow NULL", () ->
                Court.vowed().does(c -> c.vow(2, 3, 3, 0)).does(c -> c.cause(1, 3, 1, false)).proves(0, 1).judges(0, 1)
                        .judges(0, 1).vowIs(1, VowCourt.NULL, 0).vowIs(0, VowCourt.STANDS, -1));
    }

    private static void appeal(Suite suite) {
        suite.test("promise 21: it is OPEN in the second instance, without votes", () ->
                Court.behind(0).does(c -> c.appeal(0)).causeIs(0, OPEN, 2, 127, 0, -1, -1, 0));
        suite.test("promise 21: its vow has ENDED", () ->
                Court.behind(0).does(c -> c.die(1)).does(c -> c.appeal(0)).causeIs(0, OPEN, 2));
        suite.test("promise 21: days later", () ->
                Court.behind(0).does(c -> c.pass(10000)).does(c -> c.appeal(0)).causeIs(0, OPEN, 2));
        suite.test("promise 21: both have moved to other homes", () ->
                Court.behind(0).does(c -> c.home(0, 7)).does(c -> c.home(1, 7)).does(c -> c.appeal(0))
                        .causeIs(0, OPEN, 2));
        suite.test("promise 21: behind it the cause is not over: no other one, no grace, no documents", () ->
                Court.behind(0).does(c -> c.appeal(0)).illegalState(c -> c.cause(0, 3, 1, false))
                        .illegalState(c -> c.grace(0)).illegalState(c -> c.documents(0)));
        suite.test("promise 21: the judges vote anew", () ->
                Court.behind(0).does(c -> c.appeal(0)).does(c -> c.publish(0)).answers(1, c -> c.vote(0, 0, 1))
                        .answers(2, c -> c.vote(0, 1, 1)).answers(3, c -> c.vote(0, 2, 1)));
    }

    private static void appealIsRefused(Suite suite) {
        suite.test("promise 21: it is OPEN in the first instance", () ->
                Court.inCause(1).illegalState(c -> c.appeal(0)));
        suite.test("promise 21: it is PUBLISHED in the first instance", () ->
                Court.inCause(1).does(c -> c.publish(0)).illegalState(c -> c.appeal(0)));
        suite.test("promise 21: it is OPEN in the second instance", () ->
                Court.behind(1).illegalState(c -> c.appeal(0)));
        suite.test("promise 21: it was appealed, and is OPEN", () ->
                Court.behind(0).does(c -> c.appeal(0)).illegalState(c -> c.appeal(0)));
        suite.test("promise 21: it is REFUSED for good in the second instance", () ->
                Court.behind(0, 0).illegalState(c -> c.appeal(0)));
        suite.test("promise 21: it is REFUSED for good in the third instance", () ->
                Court.behind(1, 0, 0).illegalState(c -> c.appeal(0)));
        suite.test("promise 21: it is REFUSED for good in the third instance, with a ground", () ->
                Court.behind(1, 2, 4).illegalState(c -> c.appeal(0)));
        suite.test("promise 21: it is NULLIFIED", () -> Court.behind(1, 1).illegalState(c -> c.appeal(0)));
        suite.test("promise 21: its vow is NULL by documents", () ->
                Court.behind(0).does(c -> c.documents(0)).illegalState(c -> c.appeal(0)));
        suite.test("promise 21: its vow is DISSOLVED", () ->
                Court.behind(0).does(c -> c.grace(0)).illegalState(c -> c.appeal(0)));
    }

    /** The cause 0 is REFUSED in the first instance, the cause 1 of the same vow is OPEN, with 2 and 4 proved. */
    private static Court withSecondCause() {
        return Court.behind(0).does(c -> c.cause(0, 3, 6, false)).proves(1, 6);
    }

    private static void appealAndOthers(Suite suite) {
        suite.test("promise 21: another cause of its vow is OPEN", () ->
                withSecondCause().illegalState(c -> c.appeal(0)));
        suite.test("promise 21: another cause of its vow is PUBLISHED", () ->
                withSecondCause().does(c -> c.publish(1)).illegalState(c -> c.appeal(0)));
        suite.test("promise 21: another cause of its vow is OPEN in the second instance", () ->
                withSecondCause().judges(1, 2).illegalState(c -> c.appeal(0)));
        suite.test("promise 21: another cause of its vow was appealed", () ->
                withSecondCause().judges(1, 0).does(c -> c.appeal(1)).illegalState(c -> c.appeal(0)));
        suite.test("promise 21: another cause of its vow is REFUSED", () ->
                withSecondCause().judges(1, 0).does(c -> c.appeal(0)).causeIs(0, OPEN, 2).causeIs(1, REFUSED, 1));
        suite.test("promise 21: another cause of its vow is NULLIFIED", () ->
                withSecondCause().judges(1, 2).judges(1, 2).illegalState(c -> c.appeal(0)));
        suite.test("promise 21: of two that are REFUSED the second one is appealed", () ->
                withSecondCause().judges(1, 0).does(c -> c.appeal(1)).causeIs(0, REFUSED, 1).causeIs(1, OPEN, 2));
        suite.test("promise 21: a cause of another vow is OPEN", () ->
                Court.behind(0).does(c -> c.vow(2, 3, 3, 0)).does(c -> c.cause(1, 3, 1, false)).does(c -> c.appeal(0))
                        .causeIs(0, OPEN, 2));
    }

    private static void causeOf(Suite suite) {
        suite.test("promise 29: OPEN in the first instance", () ->
                Court.inCause(6).causeIs(0, OPEN, 1, 6, -1, -1, -1, 0));
        suite.test("promise 29: PUBLISHED in the first instance, none has voted", () ->
                Court.inCause(6).does(c -> c.publish(0)).causeIs(0, PUBLISHED, 1, 6, -1, -1, -1, 0));
        suite.test("promise 29: PUBLISHED in the first instance, one has voted", () ->
                Court.inCause(6).does(c -> c.publish(0)).does(c -> c.vote(0, 1, 0))
                        .causeIs(0, PUBLISHED, 1, 6, -1, -1, -1, 1));
        suite.test("promise 29: PUBLISHED in the first instance, all have voted", () ->
                Court.inCause(6).does(c -> c.publish(0)).votes(0, 0, 2, 4).causeIs(0, PUBLISHED, 1, 6, -1, -1, -1, 3));
        suite.test("promise 29: REFUSED in the first instance", () ->
                Court.behind(0).causeIs(0, REFUSED, 1, 127, 0, -1, -1, 3));
        suite.test("promise 29: OPEN in the second instance", () ->
                Court.behind(5).causeIs(0, OPEN, 2, 127, 5, -1, -1, 0));
        suite.test("promise 29: PUBLISHED in the second instance, two have voted", () ->
                Court.behind(5).does(c -> c.publish(0)).does(c -> c.vote(0, 2, 0)).does(c -> c.vote(0, 0, 0))
                        .causeIs(0, PUBLISHED, 2, 127, 5, -1, -1, 2));
        suite.test("promise 29: NULLIFIED in the second instance", () ->
                Court.behind(5, 4).causeIs(0, NULLIFIED, 2, 127, 5, 4, -1, 3));
        suite.test("promise 29: REFUSED in the second instance", () ->
                Court.behind(0, 0).causeIs(0, REFUSED, 2, 127, 0, 0, -1, 3));
        suite.test("promise 29: OPEN in the third instance", () ->
                Court.behind(0, 9).causeIs(0, OPEN, 3, 127, 0, 9, -1, 0));
        suite.test("promise 29: NULLIFIED in the third instance", () ->
                Court.behind(0, 9, 8).causeIs(0, NULLIFIED, 3, 127, 0, 9, 8, 3));
        suite.test("promise 29: REFUSED in the third instance", () ->
                Court.behind(1, 8, 4).causeIs(0, REFUSED, 3, 127, 1, 8, 4, 3));
        suite.test("promise 29: each cause has its own", () ->
                Court.behind(1, 1).does(c -> c.vow(2, 3, 3, 0)).does(c -> c.cause(1, 3, 64, false))
                        .causeIs(1, OPEN, 1, 64, -1, -1, -1, 0).causeIs(0, NULLIFIED, 2, 127, 1, 1, -1, 3));
    }
}
