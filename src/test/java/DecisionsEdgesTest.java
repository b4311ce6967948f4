/** The boundary cases of promises 19 to 25: precedents, decisions, outcomes and appeals. */
public final class DecisionsEdgesTest {
    private DecisionsEdgesTest() {
    }

    public static void main(String[] args) {
        precedentNoReport();
        precedentLikeness();
        precedentOutcomes();
        precedentItself();
        precedentUnderAppeal();
        precedentDecidedLast();
        decideNoReport();
        decideDecided();
        decideQuorum();
        decideOutcomes();
        decideMoreAndAsMuch();
        decideWithGuiltyPrecedent();
        decideWithInnocentPrecedent();
        decideOnLastDay();
        outcomeNone();
        outcomeOfNewDecision();
        outcomeAnewNone();
        outcomeAnewByTurns();
        outcomeAnewOfBots();
        outcomeAnewOfAll();
        outcomeAnewAgain();
        isByBotNone();
        appealNoReport();
        appealTwice();
        appealMost();
        wasReversedNone();
        wasReversedAnew();
        Checks.finish();
    }

    /** Users 0 to 7 of the weights 1 to 8; kind 0 and 1 forbidden for 3 days, 2 allowed; day 1. */
    private static PrecedentHall scales() {
        PrecedentHall hall = new PrecedentHall();
        for (int weight = 1; weight <= 8; weight++) {
            hall.addUser(weight);
        }
        hall.addRule(0, true, 1, 3, 1);
        hall.addRule(1, true, 1, 3, 1);
        hall.addRule(2, false, 2, 3, 1);
        hall.pass(1);
        hall.setQuorum(1);
        return hall;
    }

    /** Decides a report of the users 0 and 1 by a vote of each weight, 3 to 8, or 0 for none. */
    private static char weighed(PrecedentHall hall, int facts, int pro, int contra) {
        int report = hall.file(0, 1, facts, 0);
        if (pro > 0) {
            hall.vote(report, pro - 1, true);
        }
        if (contra > 0) {
            hall.vote(report, contra - 1, false);
        }
        return hall.decide(report);
    }

    private static PrecedentHall oneDecided(int facts, boolean isGuilty) {
        PrecedentHall hall = Courts.small();
        Courts.decided(hall, facts, isGuilty);
        return hall;
    }

    private static PrecedentHall oneOpen() {
        PrecedentHall hall = Courts.small();
        hall.file(0, 1, 3, 0);
        return hall;
    }

    private static PrecedentHall oneUnderAppeal() {
        PrecedentHall hall = oneDecided(3, true);
        hall.appeal(0);
        return hall;
    }

    // ---- promise 19

    private static void precedentNoReport() {
        Edge.index("19 report of one", DecisionsEdgesTest::oneOpen, 1, PrecedentHall::precedent);
        Edge.index("19 report of twenty", Courts::full, 20, PrecedentHall::precedent);
        Edge.refused("19 the only report", Checks.NO_ELEMENT, DecisionsEdgesTest::oneOpen,
                hall -> hall.precedent(0));
    }

    private static PrecedentHall alike(int facts, int others) {
        PrecedentHall hall = Courts.withUsers(4);
        hall.addRule(7, true, 1, 3, 1);
        hall.pass(1);
        Courts.decided(hall, facts, true);
        hall.file(0, 1, others, 0);
        return hall;
    }

    private static void precedentLikeness() {
        Edge.Call call = hall -> hall.precedent(1);
        Edge.refused("19 a likeness of 0", Checks.NO_ELEMENT, () -> alike(128 + 5, 10), call);
        Edge.refused("19 a likeness of 1", Checks.NO_ELEMENT, () -> alike(128 + 5, 12), call);
        Edge.answers("19 a likeness of 2", 0, () -> alike(128 + 5, 13), call);
        Edge.answers("19 a likeness of 2, kind 7 with it", 0, () -> alike(128 + 1, 129), call);
        Edge.answers("19 a likeness of 8", 0, () -> alike(255, 255), call);
        PrecedentHall hall = alike(255, 255);
        for (int facts : new int[] {127 + 128, 127, 126 + 128, 3 + 128}) {
            Courts.decided(hall, facts, true);
        }
        Checks.due("19 8 before 7", hall.precedent(1), 2);
        hall.appeal(2);
        Checks.due("19 8, though earlier", hall.precedent(1), 0);
        hall.appeal(0);
        Checks.due("19 7 before 3", hall.precedent(1), 4);
        hall.appeal(4);
        Checks.due("19 3 is left", hall.precedent(1), 5);
    }

    private static void precedentOutcomes() {
        for (boolean isGuilty : new boolean[] {true, false}) {
            PrecedentHall hall = oneDecided(3, isGuilty);
            hall.file(0, 1, 3, 0);
            Checks.due("19 'g' or 'i'", hall.precedent(1), 0);
        }
        Edge.refused("19 'w'", Checks.NO_ELEMENT, () -> oneDecidedAndOne(7), hall ->
                hall.precedent(1));
        Edge.refused("19 'n'", Checks.NO_ELEMENT, () -> oneDecidedAndOne(248), hall ->
                hall.precedent(1));
        PrecedentHall hall = oneDecidedAndOne(7);
        Courts.decided(hall, 3, true);
        Courts.decided(hall, 7, true);
        Checks.due("19 'w' hides no other", hall.precedent(1), 2);
        Checks.due("19 'w' and 'n' have precedents", hall.precedent(0), 2);
    }

    private static PrecedentHall oneDecidedAndOne(int facts) {
        PrecedentHall hall = oneDecided(facts, true);
        hall.file(0, 1, 255, 0);
        return hall;
    }

    private static void precedentItself() {
        Edge.refused("19 not itself, when decided", Checks.NO_ELEMENT,
                () -> oneDecided(3, true), hall -> hall.precedent(0));
        PrecedentHall hall = oneDecided(3, true);
        Courts.decided(hall, 3, true);
        Checks.due("19 the other one of two", hall.precedent(0), 1);
        Checks.due("19 the one of the other", hall.precedent(1), 0);
    }

    private static PrecedentHall appealedAndOne() {
        PrecedentHall hall = oneUnderAppeal();
        hall.file(0, 1, 3, 0);
        return hall;
    }

    private static void precedentUnderAppeal() {
        Edge.refused("19 open ones only", Checks.NO_ELEMENT, () -> {
            PrecedentHall hall = oneOpen();
            hall.file(0, 1, 3, 0);
            hall.vote(0, 2, true);
            return hall;
        }, hall -> hall.precedent(1));
        Edge.refused("19 under appeal", Checks.NO_ELEMENT, DecisionsEdgesTest::appealedAndOne,
                hall -> hall.precedent(1));
        Edge.answers("19 decided anew", 0, () -> {
            PrecedentHall hall = appealedAndOne();
            hall.decide(0);
            return hall;
        }, hall -> hall.precedent(1));
        PrecedentHall hall = appealedAndOne();
        Courts.decided(hall, 3, true);
        Checks.due("19 of one under appeal", hall.precedent(0), 2);
    }

    private static void precedentDecidedLast() {
        PrecedentHall hall = Courts.small();
        for (int report = 0; report < 4; report++) {
            hall.file(0, 1, 3, 0);
            hall.vote(report, 2, true);
        }
        hall.decide(2);
        Checks.due("19 the first decided", hall.precedent(3), 2);
        hall.decide(0);
        Checks.due("19 decided last, though filed first", hall.precedent(3), 0);
        hall.decide(1);
        Checks.due("19 decided last of three", hall.precedent(3), 1);
        Checks.due("19 of the one decided last", hall.precedent(1), 0);
        hall.appeal(2);
        hall.decide(2);
        Checks.due("19 the new decision is the last", hall.precedent(3), 2);
        PrecedentHall likeness = Courts.small();
        for (int facts : new int[] {3, 11, 11 + 16}) {
            likeness.vote(likeness.file(0, 1, facts, 0), 2, true);
        }
        likeness.decide(1);
        likeness.decide(0);
        Checks.due("19 the likeness ahead of the turn", likeness.precedent(2), 1);
    }

    // ---- promise 20

    private static void decideNoReport() {
        Edge.index("20 report of one", DecisionsEdgesTest::oneOpen, 1, PrecedentHall::decide);
        Edge.index("20 report of twenty", Courts::full, 20, PrecedentHall::decide);
    }

    private static void decideDecided() {
        Edge.refused("20 decided by votes", Checks.ILLEGAL_STATE, Courts::busy,
                hall -> hall.decide(4));
        Edge.refused("20 decided by a bot, no votes", Checks.ILLEGAL_STATE, Courts::busy,
                hall -> hall.decide(1));
        Edge.refused("20 decided anew", Checks.ILLEGAL_STATE, Courts::busy,
                hall -> hall.decide(3));
        Edge.refused("20 decided, less than the quorum", Checks.ILLEGAL_STATE, () -> {
            PrecedentHall hall = Courts.busy();
            hall.setQuorum(50);
            return hall;
        }, hall -> hall.decide(4));
    }

    /** Reports with the votes 3 for and 4 against, and a precedent that makes no quorum. */
    private static PrecedentHall sevenVoted(int quorum, boolean isOnAppeal) {
        PrecedentHall hall = scales();
        weighed(hall, 3, 8, 0);
        hall.file(0, 1, 3, 0);
        hall.vote(1, 2, true);
        hall.vote(1, 3, false);
        if (isOnAppeal) {
            hall.decide(1);
            hall.appeal(1);
        }
        hall.setQuorum(quorum);
        return hall;
    }

    private static void decideQuorum() {
        Edge.Call call = hall -> hall.decide(1);
        for (boolean isOnAppeal : new boolean[] {false, true}) {
            Edge.answers("20 as much as the quorum", 'g', () -> sevenVoted(7, isOnAppeal), call);
            Edge.refused("20 one less than the quorum", Checks.UNSUPPORTED,
                    () -> sevenVoted(8, isOnAppeal), call);
        }
        Edge.refused("20 no votes", Checks.UNSUPPORTED, DecisionsEdgesTest::oneOpen,
                hall -> hall.decide(0));
        Edge.refused("20 no votes on a bot's decision", Checks.UNSUPPORTED, () -> {
            PrecedentHall hall = Courts.busy();
            hall.appeal(1);
            return hall;
        }, call);
    }

    private static void decideOutcomes() {
        Checks.due("20 no rule", weighed(scales(), 248, 8, 0), 'n');
        Checks.due("20 no rule, against it", weighed(scales(), 248, 0, 8), 'n');
        Checks.due("20 allowed", weighed(scales(), 4, 8, 0), 'w');
        Checks.due("20 allowed, against it", weighed(scales(), 7, 0, 8), 'w');
        PrecedentHall lawless = Courts.withUsers(3);
        Checks.due("20 no rules at all", lawlessOutcome(lawless), 'n');
        Checks.due("20 it is a decision", lawless.decisions(), 1);
        Checks.due("20 it makes no sanction", lawless.sanctions(1), 0);
    }

    private static char lawlessOutcome(PrecedentHall hall) {
        Courts.decided(hall, 255, true);
        return hall.outcome(0);
    }

    private static void decideMoreAndAsMuch() {
        Checks.due("20 one more for it", weighed(scales(), 3, 5, 4), 'g');
        Checks.due("20 one less for it", weighed(scales(), 3, 4, 5), 'i');
        Checks.due("20 something against nothing", weighed(scales(), 3, 3, 0), 'g');
        Checks.due("20 nothing against something", weighed(scales(), 3, 0, 3), 'i');
        PrecedentHall same = scales();
        same.setWeight(2, 4);
        same.file(0, 1, 3, 0);
        same.vote(0, 2, true);
        same.vote(0, 3, false);
        Checks.due("20 as much on both sides", same.decide(0), 'i');
    }

    private static void decideWithGuiltyPrecedent() {
        PrecedentHall hall = scales();
        weighed(hall, 3, 8, 0);
        Checks.due("20 3 and 5 against 7", weighed(hall, 3, 3, 7), 'g');
        Checks.due("20 3 and 5 against 8", weighed(hall, 3, 3, 8), 'i');
        PrecedentHall none = scales();
        weighed(none, 3, 8, 0);
        Checks.due("20 5 against 4", weighed(none, 3, 0, 4), 'g');
        Checks.due("20 5 against 5", weighed(none, 3, 0, 5), 'i');
        PrecedentHall unlike = scales();
        weighed(unlike, 3, 8, 0);
        Checks.due("20 no precedent with a likeness of 1", weighed(unlike, 1, 0, 3), 'i');
    }

    private static void decideWithInnocentPrecedent() {
        PrecedentHall hall = scales();
        weighed(hall, 3, 0, 8);
        Checks.due("20 8 against 3 and 5", weighed(hall, 3, 8, 3), 'i');
        Checks.due("20 5 against 5", weighed(hall, 3, 5, 0), 'i');
        Checks.due("20 6 against 5", weighed(hall, 3, 6, 0), 'g');
        PrecedentHall more = scales();
        weighed(more, 3, 0, 8);
        more.setWeight(7, 9);
        Checks.due("20 9 against 3 and 5", weighed(more, 3, 8, 3), 'g');
        PrecedentHall unlike = scales();
        weighed(unlike, 3, 0, 8);
        Checks.due("20 no precedent with a likeness of 1", weighed(unlike, 1, 3, 0), 'g');
        PrecedentHall allowed = scales();
        weighed(allowed, 7, 0, 8);
        Checks.due("20 'w' adds nothing", weighed(allowed, 3, 3, 0), 'g');
    }

    private static void decideOnLastDay() {
        PrecedentHall hall = scales();
        Courts.passTo(hall, 1000);
        Checks.due("20 on day 1000", weighed(hall, 3, 8, 0), 'g');
        Checks.due("9 sanctioned on day 1000", hall.sanctions(1), 1);
        hall.appeal(0);
        Checks.due("24 ended on day 1000", hall.sanctions(1), 0);
        Checks.due("20 again on day 1000", hall.decide(0), 'g');
        Checks.due("10 beginning with day 1000", hall.sanctionedUntil(1), 1003);
    }

    // ---- promise 21

    private static void outcomeNone() {
        Edge.index("21 report of one", () -> oneDecided(1, true), 1, PrecedentHall::outcome);
        Edge.index("21 report of twenty", Courts::full, 20, PrecedentHall::outcome);
        Edge.refused("21 open", Checks.NO_ELEMENT, Courts::busy, hall -> hall.outcome(0));
        Edge.refused("21 open, no votes", Checks.NO_ELEMENT, Courts::busy,
                hall -> hall.outcome(5));
        Edge.refused("21 under appeal", Checks.NO_ELEMENT, Courts::busy, hall -> hall.outcome(2));
        Edge.answers("21 by a bot", 'g', Courts::busy, hall -> hall.outcome(1));
        Edge.answers("21 no rule", 'n', Courts::busy, hall -> hall.outcome(4));
        Edge.answers("21 allowed", 'w', () -> oneDecided(4, true), hall -> hall.outcome(0));
        Edge.answers("21 innocent", 'i', () -> oneDecided(1, false), hall -> hall.outcome(0));
    }

    private static void outcomeOfNewDecision() {
        for (boolean isGuilty : new boolean[] {false, true}) {
            PrecedentHall hall = oneDecided(1, !isGuilty);
            hall.appeal(0);
            hall.vote(0, 2, isGuilty);
            Checks.thrown("21 a vote is no decision", Checks.NO_ELEMENT, () -> hall.outcome(0));
            hall.decide(0);
            Checks.due("21 the new one", hall.outcome(0), isGuilty ? 'g' : 'i');
            Checks.due("22 the new one", hall.outcomeAnew(0), isGuilty ? 'g' : 'i');
        }
    }

    // ---- promise 22

    private static void outcomeAnewNone() {
        Edge.index("22 report of one", () -> oneDecided(1, true), 1, PrecedentHall::outcomeAnew);
        Edge.index("22 report of twenty", Courts::full, 20, PrecedentHall::outcomeAnew);
        Edge.refused("22 open", Checks.NO_ELEMENT, Courts::busy, hall -> hall.outcomeAnew(0));
        Edge.refused("22 open, no votes", Checks.NO_ELEMENT, Courts::busy,
                hall -> hall.outcomeAnew(5));
        Edge.refused("22 under appeal", Checks.NO_ELEMENT, Courts::busy,
                hall -> hall.outcomeAnew(2));
        Edge.answers("22 no rule", 'n', Courts::busy, hall -> hall.outcomeAnew(4));
        Edge.answers("22 allowed", 'w', () -> oneDecided(4, true), hall -> hall.outcomeAnew(0));
    }

    /** Each decision rests on the precedent that it had in its turn, and on no later one. */
    private static void outcomeAnewByTurns() {
        PrecedentHall hall = scales();
        hall.file(0, 1, 3, 0);
        hall.vote(0, 3, false);
        Checks.due("22 the first is found without one", weighed(hall, 3, 3, 0), 'g');
        Checks.due("22 the second is found with it", hall.decide(0), 'g');
        hall.appeal(1);
        hall.vote(1, 7, false);
        Checks.due("22 it is found anew", hall.decide(1), 'i');
        Checks.due("22 a third one is found with that", weighed(hall, 3, 5, 0), 'i');
        Checks.due("22 the second keeps its own", hall.outcomeAnew(0), 'g');
        Checks.due("22 the first has the new one", hall.outcomeAnew(1), 'i');
        Checks.due("22 the third", hall.outcomeAnew(2), 'i');
        hall.appeal(2);
        hall.appeal(0);
        Checks.due("22 without those under appeal", weighed(hall, 3, 5, 0), 'i');
        hall.vote(2, 7, true);
        hall.decide(2);
        Checks.due("22 found with the first one's new decision", hall.outcomeAnew(3), 'i');
        Checks.due("22 the fourth of them", hall.outcomeAnew(2), hall.outcome(2));
    }

    private static void outcomeAnewOfBots() {
        for (int evidence : new int[] {50, 59, 60, 100}) {
            PrecedentHall hall = Courts.small();
            Courts.decided(hall, 3, false);
            hall.addBot(0, 50);
            hall.file(0, 1, 3, evidence);
            Checks.due("22 by a bot, evidence " + evidence, hall.outcomeAnew(1),
                    evidence < 60 ? 'i' : 'g');
        }
    }

    private static void outcomeAnewOfAll() {
        PrecedentHall hall = Courts.full();
        for (int i = 0; i < 20; i++) {
            int report = i;
            Checks.due("22 the same of " + report, Checks.result(() -> hall.outcomeAnew(report)),
                    Checks.result(() -> hall.outcome(report)));
        }
    }

    /** What was found the time before is no precedent of the cases that are decided anew. */
    private static void outcomeAnewAgain() {
        PrecedentHall hall = scales();
        Checks.due("22 the first, without a precedent", weighed(hall, 3, 3, 0), 'g');
        weighed(hall, 3, 3, 8);
        weighed(hall, 3, 3, 8);
        for (int time = 0; time < 3; time++) {
            Checks.due("22 the first of three", hall.outcomeAnew(0), 'g');
            Checks.due("22 the second of three", hall.outcomeAnew(1), 'i');
            Checks.due("34 asked again", hall.isConsistent(), true);
        }
    }

    // ---- promise 23

    private static void isByBotNone() {
        Edge.index("23 report of one", () -> oneDecided(1, true), 1, PrecedentHall::isByBot);
        Edge.index("23 report of twenty", Courts::full, 20, PrecedentHall::isByBot);
        Edge.refused("23 open", Checks.NO_ELEMENT, Courts::busy, hall -> hall.isByBot(0));
        Edge.refused("23 under appeal", Checks.NO_ELEMENT, Courts::busy, hall -> hall.isByBot(2));
        Edge.refused("23 a bot's, under appeal", Checks.NO_ELEMENT, Courts::full,
                hall -> hall.isByBot(14));
        Edge.answers("23 by a bot", true, Courts::full, hall -> hall.isByBot(4));
        Edge.answers("23 by votes", false, Courts::full, hall -> hall.isByBot(5));
        Edge.answers("23 a bot's, decided anew", false, Courts::full, hall -> hall.isByBot(19));
        Edge.answers("23 a bot's, no rule", true, () -> {
            PrecedentHall hall = Courts.withUsers(2);
            hall.addBot(7, 100);
            hall.file(0, 1, 128, 100);
            return hall;
        }, hall -> hall.isByBot(0));
    }

    // ---- promise 24

    private static void appealNoReport() {
        Edge.index("24 report of one", () -> oneDecided(1, true), 1, PrecedentHall::appeal);
        Edge.index("24 report of twenty", Courts::full, 20, PrecedentHall::appeal);
        Edge.refused("24 open", Checks.ILLEGAL_STATE, Courts::busy, hall -> hall.appeal(0));
        Edge.refused("24 open, no votes", Checks.ILLEGAL_STATE, Courts::busy,
                hall -> hall.appeal(5));
        for (int facts : new int[] {1, 4, 128}) {
            Edge.answers("24 whatever the outcome, facts " + facts, 1,
                    () -> oneDecided(facts, true), hall -> hall.appeal(0));
        }
        Edge.answers("24 innocent", 1, () -> oneDecided(1, false), hall -> hall.appeal(0));
        Edge.answers("24 by a bot, a second one", 2, Courts::busy, hall -> hall.appeal(1));
    }

    private static void appealTwice() {
        Edge.refused("24 under appeal, not decided", Checks.ILLEGAL_STATE, Courts::busy,
                hall -> hall.appeal(2));
        Edge.refused("24 decided anew", Checks.UNSUPPORTED, Courts::busy, hall -> hall.appeal(3));
        Edge.refused("24 a bot's, decided anew", Checks.UNSUPPORTED, Courts::full,
                hall -> hall.appeal(19));
        Edge.refused("24 reversed", Checks.UNSUPPORTED, () -> {
            PrecedentHall hall = oneDecided(1, true);
            Courts.decidedAnew(hall, 0, false);
            return hall;
        }, hall -> hall.appeal(0));
    }

    private static void appealMost() {
        PrecedentHall hall = Courts.small();
        for (int report = 0; report < 20; report++) {
            Courts.decided(hall, 1, true);
        }
        for (int report = 0; report < 20; report++) {
            Checks.due("24 number of them", hall.appeal(report), report + 1);
        }
        for (int report = 0; report < 20; report++) {
            hall.decide(report);
        }
        Checks.due("28 all were decided twice", hall.decisions(), 40);
        Checks.due("34 consistent", hall.isConsistent(), true);
        PrecedentHall few = Courts.small();
        Courts.decided(few, 1, true);
        Courts.decided(few, 1, true);
        Courts.decidedAnew(few, 0, true);
        Checks.due("24 without those decided anew", few.appeal(1), 1);
    }

    // ---- promise 25

    private static void wasReversedNone() {
        Edge.index("25 report of one", DecisionsEdgesTest::oneOpen, 1,
                PrecedentHall::wasReversed);
        Edge.index("25 report of twenty", Courts::full, 20, PrecedentHall::wasReversed);
        Edge.answers("25 open", false, Courts::busy, hall -> hall.wasReversed(0));
        Edge.answers("25 decided once", false, Courts::busy, hall -> hall.wasReversed(1));
        Edge.answers("25 under appeal", false, Courts::busy, hall -> hall.wasReversed(2));
        Edge.answers("25 under appeal, with a vote against it", false, () -> {
            PrecedentHall hall = oneUnderAppeal();
            hall.vote(0, 2, false);
            return hall;
        }, hall -> hall.wasReversed(0));
    }

    private static boolean reversed(int facts, boolean first, boolean second) {
        PrecedentHall hall = oneDecided(facts, first);
        Courts.decidedAnew(hall, 0, second);
        return hall.wasReversed(0);
    }

    private static void wasReversedAnew() {
        Checks.due("25 'g', then 'i'", reversed(1, true, false), true);
        Checks.due("25 'i', then 'g'", reversed(1, false, true), true);
        Checks.due("25 'g', then 'g'", reversed(1, true, true), false);
        Checks.due("25 'i', then 'i'", reversed(1, false, false), false);
        Checks.due("25 'w' both times", reversed(4, true, false), false);
        Checks.due("25 'n' both times", reversed(128, true, false), false);
    }
}
