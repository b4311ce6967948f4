/** The boundary cases of promises 13 to 18: reports, their states and their votes. */
public final class VotesEdgesTest {
    private VotesEdgesTest() {
    }

    public static void main(String[] args) {
        fileUsers();
        fileSameUser();
        fileNumbers();
        fileFull();
        fileOrder();
        fileWithoutBot();
        fileByLowestBot();
        fileWeightOfBot();
        stateOfAll();
        voteNumbers();
        voteOnDecided();
        voteOfParty();
        voteOfSanctioned();
        voteAfterSanction();
        voteOrder();
        voteReplaced();
        voteSum();
        weightsOfNone();
        setQuorumNumbers();
        setQuorumCounts();
        Checks.finish();
    }

    private static PrecedentHall oneReport() {
        PrecedentHall hall = Courts.small();
        hall.file(0, 1, 1, 0);
        return hall;
    }

    private static PrecedentHall withBots(int... kindsAndThresholds) {
        PrecedentHall hall = Courts.small();
        for (int i = 0; i < kindsAndThresholds.length; i += 2) {
            hall.addBot(kindsAndThresholds[i], kindsAndThresholds[i + 1]);
        }
        return hall;
    }

    private static PrecedentHall nineteenReports() {
        PrecedentHall hall = Courts.small();
        for (int i = 0; i < 19; i++) {
            hall.file(0, 1, 1, 0);
        }
        return hall;
    }

    // ---- promise 13

    private static void fileUsers() {
        Edge.index("13 reporter of two", () -> Courts.withUsers(2), 2,
                (hall, user) -> hall.file(user, 1 - Math.floorMod(user, 2), 1, 0));
        Edge.index("13 accused of two", () -> Courts.withUsers(2), 2,
                (hall, user) -> hall.file(1 - Math.floorMod(user, 2), user, 1, 0));
        Edge.index("13 reporter of eight", () -> Courts.withUsers(8), 8,
                (hall, user) -> hall.file(user, 3, 1, 0));
        Edge.index("13 accused of eight", () -> Courts.withUsers(8), 8,
                (hall, user) -> hall.file(3, user, 1, 0));
        Edge.index("13 reporter of none", Courts::empty, 0,
                (hall, user) -> hall.file(user, 1, 1, 0));
        Edge.index("13 accused of none", Courts::empty, 0,
                (hall, user) -> hall.file(1, user, 1, 0));
    }

    private static void fileSameUser() {
        Edge.refused("13 the first user against itself", Checks.ILLEGAL_ARGUMENT, Courts::busy,
                hall -> hall.file(0, 0, 1, 100));
        Edge.refused("13 the last user against itself", Checks.ILLEGAL_ARGUMENT, Courts::busy,
                hall -> hall.file(3, 3, 1, 100));
        Edge.refused("13 the only user against itself", Checks.ILLEGAL_ARGUMENT,
                () -> Courts.withUsers(1), hall -> hall.file(0, 0, 1, 0));
        Edge.refused("13 the only user against none", Checks.OUT_OF_BOUNDS,
                () -> Courts.withUsers(1), hall -> hall.file(0, 1, 1, 0));
        Edge.refused("13 none against itself", Checks.OUT_OF_BOUNDS, Courts::busy,
                hall -> hall.file(4, 4, 1, 100));
    }

    private static void fileNumbers() {
        Edge.range("13 facts", Courts::busy, 1, 255,
                (hall, facts) -> hall.file(0, 1, facts, 100));
        Edge.range("13 facts without a bot", Courts::small, 1, 255,
                (hall, facts) -> hall.file(0, 1, facts, 0));
        Edge.refused("13 facts 257", Checks.ILLEGAL_ARGUMENT, Courts::busy,
                hall -> hall.file(0, 1, 257, 100));
        Edge.range("13 evidence", Courts::busy, 0, 100,
                (hall, evidence) -> hall.file(0, 1, 1, evidence));
        Edge.range("13 evidence without a bot", Courts::small, 0, 100,
                (hall, evidence) -> hall.file(0, 1, 1, evidence));
    }

    private static void fileFull() {
        PrecedentHall hall = Courts.small();
        for (int number = 0; number < 20; number++) {
            Checks.due("13 number", hall.file(0, 1, 1, 0), number);
        }
        Edge.answers("13 twentieth", 19, VotesEdgesTest::nineteenReports,
                most -> most.file(0, 1, 1, 0));
        Edge.refused("13 twenty-first", Checks.ILLEGAL_STATE, Courts::full,
                full -> full.file(0, 1, 1, 0));
        Edge.refused("13 twenty-first, which a bot would decide", Checks.ILLEGAL_STATE,
                Courts::full, full -> full.file(0, 1, 255, 100));
        Edge.answers("13 a refused one takes no number", 1, VotesEdgesTest::oneReport, one -> {
            Checks.result(() -> one.file(0, 1, 1, 101));
            return one.file(0, 1, 1, 100);
        });
    }

    private static void fileOrder() {
        Edge.refused("13 no reporter, no facts", Checks.OUT_OF_BOUNDS, Courts::busy,
                hall -> hall.file(4, 0, 0, 0));
        Edge.refused("13 no accused, no such evidence", Checks.OUT_OF_BOUNDS, Courts::busy,
                hall -> hall.file(0, 4, 1, 101));
        Edge.refused("13 full, no reporter", Checks.OUT_OF_BOUNDS, Courts::full,
                hall -> hall.file(-1, 0, 1, 0));
        Edge.refused("13 full, no accused", Checks.OUT_OF_BOUNDS, Courts::full,
                hall -> hall.file(0, 8, 1, 0));
        Edge.refused("13 full, the same user", Checks.ILLEGAL_ARGUMENT, Courts::full,
                hall -> hall.file(1, 1, 1, 0));
        Edge.refused("13 full, no facts", Checks.ILLEGAL_ARGUMENT, Courts::full,
                hall -> hall.file(0, 1, 0, 0));
        Edge.refused("13 full, too many facts", Checks.ILLEGAL_ARGUMENT, Courts::full,
                hall -> hall.file(0, 1, 256, 0));
        Edge.refused("13 full, evidence below", Checks.ILLEGAL_ARGUMENT, Courts::full,
                hall -> hall.file(0, 1, 1, -1));
        Edge.refused("13 full, evidence above", Checks.ILLEGAL_ARGUMENT, Courts::full,
                hall -> hall.file(0, 1, 1, 101));
    }

    private static char stateWith(PrecedentHall hall, int facts, int evidence) {
        return hall.state(hall.file(0, 1, facts, evidence));
    }

    private static void fileWithoutBot() {
        Checks.due("13 no bots at all", stateWith(withBots(), 255, 100), 'o');
        Checks.due("13 threshold 50, 49", stateWith(withBots(0, 50), 1, 49), 'o');
        Checks.due("13 threshold 50, 50", stateWith(withBots(0, 50), 1, 50), 'd');
        Checks.due("13 threshold 100, 99", stateWith(withBots(0, 100), 1, 99), 'o');
        Checks.due("13 threshold 100, 100", stateWith(withBots(0, 100), 1, 100), 'd');
        Checks.due("13 the kinds beside", stateWith(withBots(3, 50), 4 + 16, 100), 'o');
        PrecedentHall later = withBots();
        int report = later.file(0, 1, 1, 100);
        later.addBot(0, 50);
        Checks.due("13 only when it is filed", later.state(report), 'o');
    }

    /** The numbers of the bots whose thresholds went down when their decisions were upheld. */
    private static String deciders(PrecedentHall hall, int facts, int evidence) {
        int[] before = new int[4];
        for (int bot = 0; bot < 4; bot++) {
            before[bot] = hall.threshold(bot);
        }
        Courts.decidedAnew(hall, hall.file(0, 1, facts, evidence), true);
        StringBuilder all = new StringBuilder();
        for (int bot = 0; bot < 4; bot++) {
            all.append(hall.threshold(bot) < before[bot] ? bot : "");
        }
        return all.toString();
    }

    private static void fileByLowestBot() {
        Checks.due("13 of four alike", deciders(withBots(0, 60, 0, 60, 0, 60, 0, 60), 1, 60), "0");
        Checks.due("13 though others have lower thresholds",
                deciders(withBots(0, 90, 0, 60, 0, 55, 0, 51), 1, 90), "0");
        Checks.due("13 the first whose threshold is kept",
                deciders(withBots(0, 90, 0, 89, 0, 88, 0, 51), 1, 88), "2");
        Checks.due("13 the last one alone", deciders(withBots(0, 90, 0, 90, 0, 90, 0, 60), 1, 89),
                "3");
        Checks.due("13 the first whose kind belongs to it",
                deciders(withBots(2, 60, 3, 60, 1, 60, 0, 60), 3, 60), "2");
    }

    /** The outcome that a bot finds beside a precedent of 5 against it. */
    private static char againstFive(int evidence) {
        PrecedentHall hall = Courts.small();
        Courts.decided(hall, 3, false);
        hall.addBot(0, 50);
        return hall.outcome(hall.file(0, 1, 3, evidence));
    }

    private static void fileWeightOfBot() {
        Checks.due("13 50 makes 5", againstFive(50), 'i');
        Checks.due("13 59 makes 5", againstFive(59), 'i');
        Checks.due("13 60 makes 6", againstFive(60), 'g');
        Checks.due("13 100 makes more", againstFive(100), 'g');
        PrecedentHall alone = withBots(0, 50);
        alone.file(0, 1, 1, 50);
        Checks.due("13 5 against nothing", alone.outcome(0), 'g');
        Checks.due("13 no votes for it", alone.weightFor(0), 0);
        Checks.due("13 no votes against it", alone.weightAgainst(0), 0);
    }

    // ---- promise 14

    private static void stateOfAll() {
        Edge.index("14 report of one", VotesEdgesTest::oneReport, 1, PrecedentHall::state);
        Edge.index("14 report of twenty", Courts::full, 20, PrecedentHall::state);
        Edge.answers("14 without votes", 'o', Courts::busy, hall -> hall.state(5));
        Edge.answers("14 with votes", 'o', Courts::busy, hall -> hall.state(0));
        Edge.answers("14 decided by a bot", 'd', Courts::busy, hall -> hall.state(1));
        Edge.answers("14 under appeal", 'e', Courts::busy, hall -> hall.state(2));
        Edge.answers("14 decided anew", 'd', Courts::busy, hall -> hall.state(3));
        Edge.answers("14 decided with 'n'", 'd', Courts::busy, hall -> hall.state(4));
    }

    // ---- promise 15

    private static void voteNumbers() {
        Edge.index("15 report of one", VotesEdgesTest::oneReport, 1,
                (hall, report) -> hall.vote(report, 2, true));
        Edge.index("15 report of twenty", Courts::full, 20,
                (hall, report) -> hall.vote(report, 2, true));
        Edge.index("15 user of four", VotesEdgesTest::oneReport, 4,
                (hall, user) -> hall.vote(0, user, true));
        Edge.index("15 user of eight", Courts::full, 8, (hall, user) -> hall.vote(0, user, true));
    }

    private static void voteOnDecided() {
        Edge.refused("15 decided by votes", Checks.ILLEGAL_STATE, Courts::busy,
                hall -> hall.vote(4, 3, true));
        Edge.refused("15 decided by a bot", Checks.ILLEGAL_STATE, Courts::busy,
                hall -> hall.vote(1, 3, true));
        Edge.refused("15 decided anew", Checks.ILLEGAL_STATE, Courts::busy,
                hall -> hall.vote(3, 3, false));
        Edge.answers("15 open, the first vote", 8, Courts::busy, hall -> hall.vote(5, 3, true));
        Edge.answers("15 under appeal", 8, Courts::busy, hall -> hall.vote(2, 3, false));
    }

    private static void voteOfParty() {
        Edge.refused("15 the reporter", Checks.UNSUPPORTED, VotesEdgesTest::oneReport,
                hall -> hall.vote(0, 0, true));
        Edge.refused("15 the accused", Checks.UNSUPPORTED, VotesEdgesTest::oneReport,
                hall -> hall.vote(0, 1, false));
        Edge.refused("15 the reporter, under appeal", Checks.UNSUPPORTED, Courts::busy,
                hall -> hall.vote(2, 0, true));
        Edge.refused("15 the accused, under appeal", Checks.UNSUPPORTED, Courts::busy,
                hall -> hall.vote(2, 2, false));
        PrecedentHall hall = Courts.small();
        hall.file(0, 1, 1, 0);
        hall.file(2, 3, 1, 0);
        Checks.due("15 a party of another report, its reporter", hall.vote(1, 0, true), 5);
        Checks.due("15 a party of another report, its accused", hall.vote(1, 1, true), 10);
    }

    /** User 1 is sanctioned on the days 1 to 3; report 1 is open, of the users 2 and 3. */
    private static PrecedentHall sanctioned(int day) {
        PrecedentHall hall = Courts.small();
        Courts.decided(hall, 1, true);
        hall.file(2, 3, 1, 0);
        Courts.passTo(hall, day);
        return hall;
    }

    private static void voteOfSanctioned() {
        Edge.Call call = hall -> hall.vote(1, 1, true);
        Edge.refused("15 sanctioned today", Checks.UNSUPPORTED, () -> sanctioned(1), call);
        Edge.refused("15 the last day of it", Checks.UNSUPPORTED, () -> sanctioned(3), call);
        Edge.answers("15 the day after it", 5, () -> sanctioned(4), call);
        Edge.answers("15 ended by the appeal", 5, () -> {
            PrecedentHall hall = sanctioned(1);
            hall.appeal(0);
            return hall;
        }, call);
        Edge.refused("15 sanctioned anew", Checks.UNSUPPORTED, () -> {
            PrecedentHall hall = sanctioned(4);
            Courts.decidedAnew(hall, 0, true);
            return hall;
        }, call);
        Edge.refused("15 one of two ended", Checks.UNSUPPORTED, () -> {
            PrecedentHall hall = sanctioned(1);
            Courts.decided(hall, 1, true);
            hall.appeal(0);
            return hall;
        }, call);
    }

    /** A vote that was made before stays while its user is sanctioned. */
    private static PrecedentHall votedBefore() {
        PrecedentHall hall = Courts.small();
        hall.file(2, 3, 1, 0);
        hall.vote(0, 1, true);
        Courts.decided(hall, 1, true);
        return hall;
    }

    private static void voteAfterSanction() {
        Edge.refused("15 no vote is replaced", Checks.UNSUPPORTED, VotesEdgesTest::votedBefore,
                hall -> hall.vote(0, 1, false));
        Edge.answers("15 the vote stays", 5, VotesEdgesTest::votedBefore,
                hall -> hall.weightFor(0));
        Edge.answers("15 the vote makes the quorum", 'g', VotesEdgesTest::votedBefore,
                hall -> hall.decide(0));
    }

    private static void voteOrder() {
        Edge.refused("15 decided, no user", Checks.OUT_OF_BOUNDS, Courts::busy,
                hall -> hall.vote(1, 4, true));
        Edge.refused("15 decided, user below", Checks.OUT_OF_BOUNDS, Courts::busy,
                hall -> hall.vote(1, -1, true));
        Edge.refused("15 no report, a sanctioned user", Checks.OUT_OF_BOUNDS, Courts::busy,
                hall -> hall.vote(6, 1, true));
        Edge.refused("15 neither report nor user", Checks.OUT_OF_BOUNDS, Courts::busy,
                hall -> hall.vote(6, 4, true));
        Edge.refused("15 decided, the reporter", Checks.ILLEGAL_STATE, Courts::busy,
                hall -> hall.vote(4, 0, true));
        Edge.refused("15 decided, the accused", Checks.ILLEGAL_STATE, Courts::busy,
                hall -> hall.vote(4, 2, true));
        Edge.refused("15 decided, a sanctioned user", Checks.ILLEGAL_STATE, Courts::busy,
                hall -> hall.vote(4, 1, true));
    }

    private static void voteReplaced() {
        PrecedentHall hall = oneReport();
        hall.vote(0, 2, true);
        Checks.due("15 the same again", hall.vote(0, 2, true), 5);
        Checks.due("15 the other side", hall.vote(0, 2, false), 5);
        Checks.due("16 nothing is left of it", hall.weightFor(0), 0);
        Checks.due("17 all is there", hall.weightAgainst(0), 5);
        hall.decide(0);
        hall.appeal(0);
        hall.setWeight(2, 1);
        Checks.due("15 on appeal", hall.vote(0, 2, true), 1);
        Checks.due("17 replaced on appeal", hall.weightAgainst(0), 0);
    }

    private static PrecedentHall sixVoters(int weight) {
        PrecedentHall hall = new PrecedentHall();
        for (int i = 0; i < 8; i++) {
            hall.addUser(weight);
        }
        hall.file(6, 7, 1, 0);
        return hall;
    }

    private static void voteSum() {
        for (int weight : new int[] {1, 9}) {
            PrecedentHall hall = sixVoters(weight);
            for (int user = 0; user < 6; user++) {
                Checks.due("15 sum of weights " + weight, hall.vote(0, user, user < 3),
                        weight * (user + 1));
            }
            Checks.due("16 sum of weights " + weight, hall.weightFor(0), 3 * weight);
            Checks.due("17 sum of weights " + weight, hall.weightAgainst(0), 3 * weight);
            for (int user = 0; user < 6; user++) {
                hall.vote(0, user, true);
            }
            Checks.due("16 all of weight " + weight, hall.weightFor(0), 6 * weight);
            Checks.due("17 none of weight " + weight, hall.weightAgainst(0), 0);
        }
    }

    // ---- promises 16 and 17

    private static void weightsOfNone() {
        Edge.index("16 report of one", VotesEdgesTest::oneReport, 1, PrecedentHall::weightFor);
        Edge.index("16 report of twenty", Courts::full, 20, PrecedentHall::weightFor);
        Edge.index("17 report of one", VotesEdgesTest::oneReport, 1,
                PrecedentHall::weightAgainst);
        Edge.index("17 report of twenty", Courts::full, 20, PrecedentHall::weightAgainst);
        Edge.answers("16 no votes", 0, VotesEdgesTest::oneReport, hall -> hall.weightFor(0));
        Edge.answers("17 no votes", 0, VotesEdgesTest::oneReport, hall -> hall.weightAgainst(0));
        Edge.answers("16 decided by a bot", 0, Courts::busy, hall -> hall.weightFor(1));
        Edge.answers("17 decided by a bot", 0, Courts::busy, hall -> hall.weightAgainst(1));
        Edge.answers("16 it stays under appeal", 8, Courts::busy, hall -> hall.weightFor(2));
        Edge.answers("16 it stays when decided anew", 8, Courts::busy,
                hall -> hall.weightFor(3));
        PrecedentHall precedent = Courts.small();
        Courts.decided(precedent, 3, true);
        Courts.decided(precedent, 3, true);
        Checks.due("16 a precedent is no vote", precedent.weightFor(1), 5);
    }

    // ---- promise 18

    private static void setQuorumNumbers() {
        Edge.range("18 quorum", Courts::busy, 1, 50, PrecedentHall::setQuorum);
        PrecedentHall hall = new PrecedentHall();
        Checks.due("18 the first", hall.setQuorum(50), 5);
        Checks.due("18 the greatest", hall.setQuorum(1), 50);
        Checks.thrown("18 refused", Checks.ILLEGAL_ARGUMENT, () -> hall.setQuorum(51));
        Checks.due("18 the least, a refused one is none", hall.setQuorum(1), 1);
    }

    /** Five users of weight 9 and one of another weight vote, with a quorum. */
    private static PrecedentHall allVote(int lastWeight, int quorum) {
        PrecedentHall hall = sixVoters(9);
        hall.setWeight(5, lastWeight);
        hall.setQuorum(quorum);
        for (int user = 0; user < 6; user++) {
            hall.vote(0, user, user % 2 == 0);
        }
        return hall;
    }

    private static void setQuorumCounts() {
        Edge.Call call = hall -> hall.decide(0);
        Edge.answers("18 50 of 50", 'n', () -> allVote(5, 50), call);
        Edge.refused("18 49 of 50", Checks.UNSUPPORTED, () -> allVote(4, 50), call);
        Edge.answers("18 51 of 50", 'n', () -> allVote(6, 50), call);
        Edge.answers("18 1 of 1", 'n', () -> {
            PrecedentHall hall = sixVoters(1);
            hall.setQuorum(1);
            hall.vote(0, 5, false);
            return hall;
        }, call);
        Edge.refused("18 none of 1", Checks.UNSUPPORTED, () -> {
            PrecedentHall hall = sixVoters(1);
            hall.setQuorum(1);
            return hall;
        }, call);
    }
}
