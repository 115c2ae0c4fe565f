/** Promises 17 to 19, and what "Causes" says of proofs and votes. */
final class VoteTests {
    private VoteTests() {
    }

    static void tell(Suite suite) {
        proof(suite);
        proofIsRefused(suite);
        weightTogether(suite);
        publish(suite);
        publishIsRefused(suite);
        proved(suite);
        vote(suite);
        voteIsRefused(suite);
        voteForWhat(suite);
    }

    private static Court doubting(int doubt) {
        return Court.vowed().does(c -> c.cause(0, 3, doubt, false));
    }

    private static void proof(Suite suite) {
        suite.test("promise 17: it returns what all proofs of the ground weigh", () ->
                doubting(1).answers(4, c -> c.proof(0, 0, 4)).answers(10, c -> c.proof(0, 0, 6))
                        .answers(7, c -> c.proof(0, 0, -3)).answers(7, c -> c.proof(0, 0, 0)));
        suite.test("promise 17: the most weight", () -> doubting(1).answers(10, c -> c.proof(0, 0, 10)));
        suite.test("promise 17: the least weight", () -> doubting(1).answers(-10, c -> c.proof(0, 0, -10)));
        suite.test("promise 17: no weight", () -> doubting(1).answers(0, c -> c.proof(0, 0, 0)));
        suite.test("promise 17: each ground weighs alone", () -> {
            Court court = doubting(127);
            for (int at = 0; at < 7; at++) {
                int ground = at;
                court.answers(ground + 1, c -> c.proof(0, ground, ground + 1));
            }
            for (int at = 0; at < 7; at++) {
                int ground = at;
                court.answers(ground + 1, c -> c.proof(0, ground, 0));
            }
        });
        suite.test("promise 17: each cause weighs alone", () ->
                doubting(1).does(c -> c.vow(2, 3, 3, 0)).does(c -> c.cause(1, 3, 1, false))
                        .does(c -> c.proof(0, 0, 9)).answers(2, c -> c.proof(1, 0, 2))
                        .answers(9, c -> c.proof(0, 0, 0)));
        suite.test("promise 17: proofs go on into the second instance", () ->
                Court.behind(1).answers(9, c -> c.proof(0, 0, -1)).answers(12, c -> c.proof(0, 6, 2)));
        suite.test("promise 17: proofs go on into the second instance by appeal", () ->
                Court.behind(0).does(c -> c.appeal(0)).answers(9, c -> c.proof(0, 0, -1)));
        suite.test("promise 17: proofs go on into the third instance", () ->
                Court.behind(1).does(c -> c.proof(0, 0, 5)).judges(0, 0).answers(16, c -> c.proof(0, 0, 1)));
        suite.test("promise 17: while its vow has ENDED", () ->
                doubting(1).does(c -> c.die(0)).does(c -> c.die(1)).answers(5, c -> c.proof(0, 0, 5)));
    }

    private static void proofIsRefused(Suite suite) {
        for (int at = 0; at < 7; at++) {
            int ground = at;
            suite.test("promise 17: the ground " + ground + " is not of the doubt", () ->
                    doubting(127 - (1 << ground)).illegalState(c -> c.proof(0, ground, 1)));
            suite.test("promise 17: the ground " + ground + " alone is of the doubt", () ->
                    doubting(1 << ground).answers(1, c -> c.proof(0, ground, 1)));
        }
        suite.test("promise 17: the ground is not of the doubt, also without weight", () ->
                doubting(2).illegalState(c -> c.proof(0, 0, 0)));
        suite.test("promise 17: it is PUBLISHED", () ->
                doubting(1).does(c -> c.publish(0)).illegalState(c -> c.proof(0, 0, 1)));
        suite.test("promise 17: it is PUBLISHED, and a refused proof weighs nothing in the next instance", () ->
                Court.inCause(1).does(c -> c.publish(0)).illegalState(c -> c.proof(0, 0, 9)).votes(0, 1, 1, 1)
                        .does(c -> c.sentence(0)).answers(10, c -> c.proof(0, 0, 0)));
        suite.test("promise 17: the ground is not of the doubt, and a refused proof weighs nothing later", () ->
                doubting(1).illegalState(c -> c.proof(0, 1, 9)).does(c -> c.doubt(0, 3))
                        .answers(0, c -> c.proof(0, 1, 0)));
        suite.test("promise 17: it is PUBLISHED, with votes", () ->
                doubting(1).does(c -> c.publish(0)).votes(0, 0, 0, 0).illegalState(c -> c.proof(0, 0, 1)));
        suite.test("promise 17: it is PUBLISHED in the second instance", () ->
                Court.behind(1).does(c -> c.publish(0)).illegalState(c -> c.proof(0, 0, 1)));
        suite.test("promise 17: it is REFUSED in the first instance", () ->
                Court.behind(0).illegalState(c -> c.proof(0, 0, 1)));
        suite.test("promise 17: it is REFUSED for good", () ->
                Court.behind(0, 0).illegalState(c -> c.proof(0, 0, 1)));
        suite.test("promise 17: it is NULLIFIED", () -> Court.behind(1, 1).illegalState(c -> c.proof(0, 0, 1)));
    }

    /** The ground 0 weighs so much, the ground 1 as much below 0. */
    private static Court weighing(int weight) {
        Court court = doubting(3);
        int left = weight;
        while (left > 0) {
            int step = Math.min(left, 10);
            court.does(c -> c.proof(0, 0, step)).does(c -> c.proof(0, 1, -step));
            left -= step;
        }
        return court;
    }

    private static void weightTogether(Suite suite) {
        suite.test("promise 17: a weight of 1000 together", () -> weighing(990).answers(1000, c -> c.proof(0, 0, 10)));
        suite.test("promise 17: a weight of 1000 stays without more", () ->
                weighing(1000).answers(1000, c -> c.proof(0, 0, 0)));
        suite.test("promise 17: a weight of 1001 would be above 1000", () ->
                weighing(1000).illegalState(c -> c.proof(0, 0, 1)));
        suite.test("promise 17: a weight of 1001 would be above 1000, from 991 on", () ->
                weighing(991).illegalState(c -> c.proof(0, 0, 10)).answers(1000, c -> c.proof(0, 0, 9)));
        suite.test("promise 17: a weight of 1010 would be above 1000", () ->
                weighing(1000).illegalState(c -> c.proof(0, 0, 10)));
        suite.test("promise 17: a weight of -1000 together", () ->
                weighing(990).answers(-1000, c -> c.proof(0, 1, -10)));
        suite.test("promise 17: a weight of -1000 stays without more", () ->
                weighing(1000).answers(-1000, c -> c.proof(0, 1, 0)));
        suite.test("promise 17: a weight of -1001 would be below -1000", () ->
                weighing(1000).illegalState(c -> c.proof(0, 1, -1)));
        suite.test("promise 17: a weight of -1001 would be below -1000, from -991 on", () ->
                weighing(991).illegalState(c -> c.proof(0, 1, -10)).answers(-1000, c -> c.proof(0, 1, -9)));
        suite.test("promise 17: a weight of 1000 may become less", () ->
                weighing(1000).answers(999, c -> c.proof(0, 0, -1)).answers(1000, c -> c.proof(0, 0, 1)));
        suite.test("promise 17: a weight of -1000 may become more", () ->
                weighing(1000).answers(-999, c -> c.proof(0, 1, 1)).answers(-1000, c -> c.proof(0, 1, -1)));
        suite.test("promise 17: the weight of one ground is bounded, not that of all grounds", () ->
                weighing(1000).does(c -> c.doubt(0, 7)).answers(10, c -> c.proof(0, 2, 10)));
    }

    private static void publish(Suite suite) {
        suite.test("promise 18: a cause that is OPEN is PUBLISHED", () ->
                doubting(5).does(c -> c.publish(0)).causeIs(0, VowCourt.PUBLISHED, 1, 5, -1, -1, -1, 0));
        suite.test("promise 18: without proofs no ground may be voted for", () ->
                doubting(127).answers(0, c -> c.publish(0)));
        suite.test("promise 18: all grounds, told as 127", () -> Court.inCause(127).answers(127, c -> c.publish(0)));
        suite.test("promise 18: in the second instance", () ->
                Court.behind(1).answers(127, c -> c.publish(0)).causeIs(0, VowCourt.PUBLISHED, 2, 127, 1, -1, -1, 0));
        suite.test("promise 18: in the third instance", () ->
                Court.behind(1, 0).answers(127, c -> c.publish(0)).causeIs(0, VowCourt.PUBLISHED, 3, 127, 1, 0, -1, 0));
        suite.test("promise 18: another cause stays OPEN", () ->
                doubting(1).does(c -> c.vow(2, 3, 3, 0)).does(c -> c.cause(1, 3, 1, false)).does(c -> c.publish(1))
                        .causeIs(0, VowCourt.OPEN).causeIs(1, VowCourt.PUBLISHED));
    }

    private static void publishIsRefused(Suite suite) {
        suite.test("promise 18: it is PUBLISHED", () ->
                doubting(1).does(c -> c.publish(0)).illegalState(c -> c.publish(0)));
        suite.test("promise 18: it is PUBLISHED, with all votes", () ->
                doubting(1).does(c -> c.publish(0)).votes(0, 0, 0, 0).illegalState(c -> c.publish(0)));
        suite.test("promise 18: it is REFUSED in the first instance", () ->
                Court.behind(0).illegalState(c -> c.publish(0)));
        suite.test("promise 18: it is REFUSED for good", () -> Court.behind(0, 0).illegalState(c -> c.publish(0)));
        suite.test("promise 18: it is NULLIFIED", () -> Court.behind(1, 1).illegalState(c -> c.publish(0)));
    }

    private static void weighs(Suite suite, String what, int due, int... weights) {
        suite.test("promise 18: " + what, () -> {
            Court court = doubting(4);
            for (int weight : weights) {
                court.does(c -> c.proof(0, 2, weight));
            }
            court.answers(due, c -> c.publish(0));
        });
    }

    private static void proved(Suite suite) {
        weighs(suite, "a weight of 6 may be voted for", 4, 6);
        weighs(suite, "a weight of 5 may not be voted for", 0, 5);
        weighs(suite, "a weight of 10 may be voted for", 4, 10);
        weighs(suite, "a weight of -10 may not be voted for", 0, -10);
        weighs(suite, "weights of 3 and 3 may be voted for together", 4, 3, 3);
        weighs(suite, "weights of 3 and 2 may not be voted for together", 0, 3, 2);
        weighs(suite, "weights of 10 and -4 may be voted for together", 4, 10, -4);
        weighs(suite, "weights of 10 and -5 may not be voted for together", 0, 10, -5);
        weighs(suite, "weights of -10 and 10 and 6 may be voted for together", 4, -10, 10, 6);
        suite.test("promise 18: grounds of the doubt alone, and proved alone", () ->
                Court.inCause(15).does(c -> c.proof(0, 0, -5)).does(c -> c.doubt(0, 7 + 64))
                        .answers(6, c -> c.publish(0)));
        suite.test("promise 18: more is proved in the second instance", () ->
                doubting(3).does(c -> c.proof(0, 0, 6)).does(c -> c.proof(0, 1, 5)).judges(0, 1)
                        .does(c -> c.proof(0, 1, 1)).answers(3, c -> c.publish(0)));
        suite.test("promise 18: less is proved in the second instance", () ->
                doubting(3).does(c -> c.proof(0, 0, 6)).does(c -> c.proof(0, 1, 6)).judges(0, 1)
                        .does(c -> c.proof(0, 0, -1)).answers(2, c -> c.publish(0)).illegalState(c -> c.vote(0, 0, 1)));
    }

    private static void vote(Suite suite) {
        suite.test("promise 19: it returns how many have voted, in whatever order", () ->
                Court.inCause(1).does(c -> c.publish(0)).answers(1, c -> c.vote(0, 2, 1))
                        .answers(2, c -> c.vote(0, 0, 0))
                        .answers(3, c -> c.vote(0, 1, 1)));
        for (int at = 0; at < 3; at++) {
            int judge = at;
            suite.test("promise 19: the judge " + judge + " votes once", () ->
                    Court.inCause(1).does(c -> c.publish(0)).answers(1, c -> c.vote(0, judge, 1))
                            .illegalState(c -> c.vote(0, judge, 1)).illegalState(c -> c.vote(0, judge, 0)));
            suite.test("promise 19: the judge " + judge + ", who voted for no ground, votes once", () ->
                    Court.inCause(1).does(c -> c.publish(0)).answers(1, c -> c.vote(0, judge, 0))
                            .illegalState(c -> c.vote(0, judge, 1)).illegalState(c -> c.vote(0, judge, 0)));
            suite.test("promise 19: the judge " + judge + " votes once in the second instance too", () ->
                    Court.behind(1).does(c -> c.publish(0)).answers(1, c -> c.vote(0, judge, 1))
                            .illegalState(c -> c.vote(0, judge, 1)));
            suite.test("promise 19: the judge " + judge + " votes once in the third instance too", () ->
                    Court.behind(1, 0).does(c -> c.publish(0)).answers(1, c -> c.vote(0, judge, 1))
                            .illegalState(c -> c.vote(0, judge, 1)));
        }
        suite.test("promise 19: judges vote in each cause alone", () ->
                Court.inCause(1).does(c -> c.publish(0)).does(c -> c.vow(2, 3, 3, 0)).does(c -> c.cause(1, 3, 1, false))
                        .does(c -> c.publish(1)).does(c -> c.vote(0, 0, 1)).answers(1, c -> c.vote(1, 0, 0))
                        .answers(2, c -> c.vote(0, 1, 1)));
        suite.test("promise 19: a second vote of a judge that is refused takes nothing from the first", () ->
                Court.inCause(1).does(c -> c.publish(0)).does(c -> c.vote(0, 0, 1)).illegalState(c -> c.vote(0, 0, 0))
                        .does(c -> c.vote(0, 1, 1)).does(c -> c.vote(0, 2, 0)).answers(1, c -> c.sentence(0)));
        suite.test("promise 19: a refused vote does not count", () ->
                Court.inCause(1).does(c -> c.publish(0)).illegalState(c -> c.vote(0, 0, 2))
                        .illegalArgument(c -> c.vote(0, 0, 128)).answers(0, c -> c.causeOf(0, 6))
                        .answers(1, c -> c.vote(0, 0, 1)));
    }

    private static void voteIsRefused(Suite suite) {
        suite.test("promise 19: it is OPEN", () -> Court.inCause(1).illegalState(c -> c.vote(0, 0, 1)));
        suite.test("promise 19: it is OPEN, also for no ground", () ->
                Court.inCause(1).illegalState(c -> c.vote(0, 0, 0)));
        suite.test("promise 19: it is OPEN in the second instance", () ->
                Court.behind(1).illegalState(c -> c.vote(0, 0, 1)));
        suite.test("promise 19: it is OPEN in the second instance by appeal", () ->
                Court.behind(0).does(c -> c.appeal(0)).illegalState(c -> c.vote(0, 0, 1)));
        suite.test("promise 19: it is OPEN in the third instance", () ->
                Court.behind(1, 0).illegalState(c -> c.vote(0, 0, 1)));
        suite.test("promise 19: it is REFUSED", () -> Court.behind(0).illegalState(c -> c.vote(0, 0, 1)));
        suite.test("promise 19: it is NULLIFIED", () -> Court.behind(1, 1).illegalState(c -> c.vote(0, 0, 1)));
    }

    private static void voteForWhat(Suite suite) {
        for (int at = 0; at < 7; at++) {
            int ground = 1 << at;
            suite.test("promise 19: the ground " + ground + " is proved, but not of the doubt", () ->
                    Court.inCause(127).does(c -> c.doubt(0, 127 - ground)).does(c -> c.publish(0))
                            .illegalState(c -> c.vote(0, 0, ground)));
            suite.test("promise 19: the ground " + ground + " is of the doubt, but not proved", () ->
                    doubting(127).proves(0, 127 - ground).does(c -> c.publish(0))
                            .illegalState(c -> c.vote(0, 0, ground)));
            suite.test("promise 19: the ground " + ground + " is proved, and of the doubt", () ->
                    doubting(ground).proves(0, ground).does(c -> c.publish(0)).answers(1, c -> c.vote(0, 0, ground)));
        }
        suite.test("promise 19: one of the grounds may not be voted for, others may", () ->
                Court.inCause(3).does(c -> c.publish(0)).illegalState(c -> c.vote(0, 0, 7))
                        .illegalState(c -> c.vote(0, 0, 127)).answers(1, c -> c.vote(0, 0, 3)));
        suite.test("promise 19: some of the grounds that may be voted for", () ->
                Court.inCause(127).does(c -> c.publish(0)).answers(1, c -> c.vote(0, 0, 42)));
        suite.test("promise 19: for no ground, where none may be voted for", () ->
                doubting(1).does(c -> c.publish(0)).answers(1, c -> c.vote(0, 0, 0))
                        .illegalState(c -> c.vote(0, 1, 1)));
    }
}
