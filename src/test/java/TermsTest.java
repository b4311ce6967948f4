/** "Terms" of the document, sentence by sentence, where several promises meet in one. */
public final class TermsTest {
    private TermsTest() {
    }

    public static void main(String[] args) {
        factsAreSetsOfKinds();
        rulesOfTheDayOfTheReport();
        ruleThatAppliesTellsTheDays();
        usersAreApart();
        reportsAreApart();
        decisionStands();
        outcomesOfRulesAheadOfWeights();
        precedentOfOtherPeople();
        precedentOfBots();
        precedentOfEarlierDays();
        precedentOfTheDayOfTheDecision();
        precedentAtOneRemove();
        votesKeepTheirWeights();
        votesStayOnAppeal();
        sanctionBeginsWithTheDecision();
        sanctionAnewForTheSameDays();
        sanctionOfTheAccusedAlone();
        sanctionedUserMayDoTheRest();
        botsNeedNoQuorum();
        botsDecideWhenItIsFiled();
        botThatDecidedLearns();
        botsAreOutOnAppeal();
        appealIsLikeAnOpenReport();
        appealOnce();
        twoWays();
        fiveHundredAndTwelveCalls();
        Checks.finish();
    }

    /** Users 0 to 5 of weight 5; kind 0 forbidden for 3 days, kind 1 for 4, of rank 1; day 1. */
    private static PrecedentHall court() {
        PrecedentHall hall = Courts.withUsers(6);
        hall.addRule(0, true, 1, 3, 1);
        hall.addRule(1, true, 1, 4, 1);
        hall.pass(1);
        return hall;
    }

    private static char decided(PrecedentHall hall, int report, int voter, boolean isGuilty) {
        hall.vote(report, voter, isGuilty);
        return hall.decide(report);
    }

    // ---- days and facts

    private static void factsAreSetsOfKinds() {
        for (int facts = 1; facts <= 255; facts++) {
            PrecedentHall hall = Courts.withUsers(2);
            hall.file(0, 1, facts, 0);
            for (int kind = 0, value = 1; kind < 8; kind++, value *= 2) {
                hall.file(0, 1, value, 0);
                Checks.due("facts " + facts + ", kind " + kind, hall.likeness(0, kind + 1),
                        facts / value % 2);
            }
        }
    }

    // ---- rules

    private static void rulesOfTheDayOfTheReport() {
        PrecedentHall hall = court();
        hall.repeal(0, 2);
        hall.addRule(0, false, 9, 50, 2);
        int early = hall.file(0, 1, 1, 0);
        hall.pass(1);
        int late = hall.file(0, 1, 1, 0);
        Checks.due("rules, the day of the report", decided(hall, early, 2, true), 'g');
        Checks.due("rules, its days", hall.sanctionedUntil(1), 5);
        Checks.due("rules, the day after it", decided(hall, late, 2, true), 'w');
        Checks.due("rules, the one of then", hall.applying(early), 0);
        Checks.due("rules, anew", hall.outcomeAnew(early), 'g');
        PrecedentHall none = Courts.withUsers(3);
        none.addRule(0, true, 1, 3, 1);
        none.file(0, 1, 1, 0);
        none.pass(1);
        Checks.due("rules, none on the day of the report", decided(none, 0, 2, true), 'n');
    }

    private static void ruleThatAppliesTellsTheDays() {
        PrecedentHall hall = Courts.withUsers(8);
        hall.addRule(0, true, 2, 7, 1);
        hall.addRule(1, true, 2, 11, 1);
        hall.addRule(0, true, 1, 13, 1);
        hall.addRule(2, true, 9, 17, 1);
        hall.addRule(3, true, 9, 19, 5);
        hall.pass(1);
        int[][] due = {{1, 7}, {2, 11}, {3, 11}, {4, 17}, {7, 17}, {15, 17}, {9, 7}};
        for (int[] row : due) {
            int report = hall.file(0, 1, row[0], 0);
            Checks.due("rules, forbids facts " + row[0], decided(hall, report, 2, true), 'g');
            Checks.due("rules, days of facts " + row[0], hall.sanctionedUntil(1), 1 + row[1]);
            hall.appeal(report);
        }
    }

    // ---- people and reports

    private static void usersAreApart() {
        PrecedentHall hall = new PrecedentHall();
        for (int weight = 1; weight <= 8; weight++) {
            hall.addUser(weight);
        }
        hall.setWeight(3, 9);
        for (int user = 0; user < 8; user++) {
            Checks.due("people, weight of " + user, hall.setWeight(user, 5),
                    user == 3 ? 9 : user + 1);
        }
    }

    private static void reportsAreApart() {
        PrecedentHall hall = court();
        int one = hall.file(0, 1, 1, 0);
        int other = hall.file(2, 3, 1, 0);
        hall.vote(one, 4, true);
        hall.vote(other, 4, false);
        hall.vote(other, 5, false);
        Checks.due("reports, for the one", hall.weightFor(one), 5);
        Checks.due("reports, against the one", hall.weightAgainst(one), 0);
        Checks.due("reports, for the other", hall.weightFor(other), 0);
        Checks.due("reports, against the other", hall.weightAgainst(other), 10);
        hall.decide(other);
        Checks.due("reports, the one is open", hall.state(one), 'o');
        Checks.due("reports, the other is decided", hall.state(other), 'd');
    }

    private static void decisionStands() {
        PrecedentHall hall = court();
        int report = hall.file(0, 1, 3, 40);
        int asking = hall.file(0, 1, 3, 0);
        stands("open", hall, report, asking, false);
        decided(hall, report, 2, true);
        stands("decided", hall, report, asking, true);
        hall.appeal(report);
        stands("under appeal", hall, report, asking, false);
        hall.decide(report);
        stands("decided anew", hall, report, asking, true);
    }

    /** All that can be asked about a decision that stands tells so. */
    private static void stands(String when, PrecedentHall hall, int report, int asking,
            boolean does) {
        Object none = Checks.NO_ELEMENT;
        String what = "reports, " + when + ", ";
        Checks.due(what + "outcome", Checks.result(() -> hall.outcome(report)),
                does ? 'g' : none);
        Checks.due(what + "outcomeAnew", Checks.result(() -> hall.outcomeAnew(report)),
                does ? 'g' : none);
        Checks.due(what + "isByBot", Checks.result(() -> hall.isByBot(report)),
                does ? false : none);
        Checks.due(what + "precedent", Checks.result(() -> hall.precedent(asking)),
                does ? report : none);
        Checks.due(what + "count", hall.count('g'), does ? 1 : 0);
        Checks.due(what + "meanEvidence", Checks.result(hall::meanEvidence),
                does ? 40.0 : Checks.ARITHMETIC);
    }

    // ---- outcomes

    private static void outcomesOfRulesAheadOfWeights() {
        for (boolean isGuilty : new boolean[] {false, true}) {
            PrecedentHall hall = Courts.small();
            Courts.decided(hall, 3, true);
            int lawless = hall.file(0, 1, 248, 0);
            int allowed = hall.file(0, 1, 7, 0);
            Checks.due("outcomes, no rule", decided(hall, lawless, 2, isGuilty), 'n');
            Checks.due("outcomes, allowed", decided(hall, allowed, 2, isGuilty), 'w');
            Checks.due("outcomes, no sanction for them", hall.sanctions(1), 1);
        }
    }

    private static void precedentOfOtherPeople() {
        PrecedentHall hall = court();
        decided(hall, hall.file(0, 1, 3, 0), 2, true);
        hall.file(3, 4, 3, 0);
        hall.vote(1, 2, true);
        hall.vote(1, 5, false);
        Checks.due("outcomes, a precedent of others", hall.precedent(1), 0);
        Checks.due("outcomes, 5 and 5 against 5", hall.decide(1), 'g');
    }

    private static void precedentOfBots() {
        PrecedentHall hall = court();
        hall.addBot(0, 50);
        hall.file(0, 1, 3, 50);
        hall.file(0, 1, 3, 0);
        hall.vote(1, 2, true);
        hall.vote(1, 3, false);
        Checks.due("outcomes, a bot makes precedents", hall.precedent(1), 0);
        Checks.due("outcomes, with a bot's precedent", hall.decide(1), 'g');
        hall.file(0, 1, 3, 90);
        Checks.due("outcomes, a bot's is the last", hall.precedent(1), 2);
    }

    /** A precedent grows no older, and stays one when the rule of its day is repealed. */
    private static void precedentOfEarlierDays() {
        PrecedentHall hall = court();
        decided(hall, hall.file(0, 1, 3, 0), 2, true);
        hall.repeal(1, 2);
        Courts.passTo(hall, 1000);
        hall.file(0, 3, 3, 0);
        hall.vote(1, 2, true);
        hall.vote(1, 4, false);
        Checks.due("outcomes, a precedent of day 1", hall.precedent(1), 0);
        Checks.due("outcomes, on day 1000", hall.decide(1), 'g');
        Checks.due("outcomes, of the later for the earlier", hall.precedent(0), 1);
    }

    private static void precedentOfTheDayOfTheDecision() {
        PrecedentHall hall = court();
        int report = hall.file(0, 1, 3, 0);
        hall.vote(report, 2, true);
        hall.vote(report, 3, false);
        int later = hall.file(0, 1, 3, 0);
        decided(hall, later, 2, true);
        hall.pass(90);
        Checks.due("outcomes, filed after it", hall.precedent(report), later);
        Checks.due("outcomes, decided after it was voted on", hall.decide(report), 'g');
        hall.appeal(later);
        Checks.due("outcomes, what was decided stays", hall.outcome(report), 'g');
        decided(hall, later, 3, false);
        Checks.due("outcomes, 5 and 5 against 5 on appeal", hall.outcome(later), 'g');
    }

    /** A precedent adds its 5 alone, not the 5 that its own precedent added to it. */
    private static void precedentAtOneRemove() {
        PrecedentHall hall = court();
        hall.setWeight(3, 9);
        decided(hall, hall.file(0, 1, 3, 0), 2, true);
        decided(hall, hall.file(0, 1, 3, 0), 2, true);
        decided(hall, hall.file(0, 1, 3, 0), 2, true);
        int report = hall.file(0, 1, 3, 0);
        Checks.due("outcomes, 5 against 9", decided(hall, report, 3, false), 'i');
        Checks.due("outcomes, the votes are as they were", hall.weightAgainst(report), 9);
        Checks.due("outcomes, nothing is a vote for it", hall.weightFor(report), 0);
    }

    // ---- votes

    private static void votesKeepTheirWeights() {
        PrecedentHall hall = court();
        int report = hall.file(0, 1, 1, 0);
        hall.vote(report, 2, true);
        hall.vote(report, 3, false);
        hall.setWeight(2, 9);
        Checks.due("votes, as much on both sides", hall.decide(report), 'i');
        hall.appeal(report);
        Checks.due("votes, as much on appeal", hall.decide(report), 'i');
        PrecedentHall more = court();
        int other = more.file(0, 1, 1, 0);
        more.setWeight(2, 6);
        more.vote(other, 2, true);
        more.vote(other, 3, false);
        more.setWeight(2, 1);
        Checks.due("votes, more for it", more.decide(other), 'g');
    }

    private static void votesStayOnAppeal() {
        PrecedentHall hall = court();
        int report = hall.file(0, 1, 1, 0);
        hall.vote(report, 2, true);
        hall.vote(report, 3, true);
        hall.vote(report, 4, false);
        hall.decide(report);
        hall.appeal(report);
        Checks.due("votes, for it on appeal", hall.weightFor(report), 10);
        Checks.due("votes, against it on appeal", hall.weightAgainst(report), 5);
        Checks.due("votes, replaced on appeal", hall.vote(report, 3, false), 15);
        Checks.due("votes, a new one beside them", hall.vote(report, 5, true), 20);
        Checks.due("votes, all are counted", hall.decide(report), 'i');
    }

    // ---- sanctions

    private static void sanctionBeginsWithTheDecision() {
        PrecedentHall hall = court();
        int report = hall.file(0, 1, 1, 0);
        hall.vote(report, 2, true);
        hall.pass(40);
        Checks.due("sanctions, none ahead of the decision", hall.sanctions(1), 0);
        hall.decide(report);
        Checks.due("sanctions, from the present day on", hall.sanctionedUntil(1), 44);
        Checks.due("sanctions, no days before", hall.sanctionDays(), 0L);
    }

    private static void sanctionAnewForTheSameDays() {
        PrecedentHall hall = court();
        int report = hall.file(0, 1, 1, 0);
        decided(hall, report, 2, true);
        hall.repeal(0, 2);
        hall.addRule(0, true, 9, 60, 2);
        hall.pass(2);
        hall.appeal(report);
        Checks.due("sanctions, ended at once", hall.sanctions(1), 0);
        hall.pass(7);
        Checks.due("sanctions, 'g' again", hall.decide(report), 'g');
        Checks.due("sanctions, one alone", hall.sanctions(1), 1);
        Checks.due("sanctions, the same number of days", hall.sanctionedUntil(1), 13);
        hall.pass(100);
        Checks.due("sanctions, the days of both", hall.sanctionDays(), 5L);
    }

    private static void sanctionOfTheAccusedAlone() {
        PrecedentHall hall = court();
        decided(hall, hall.file(2, 4, 1, 0), 5, true);
        for (int user = 0; user < 6; user++) {
            Checks.due("sanctions, of user " + user, hall.sanctions(user), user == 4 ? 1 : 0);
        }
    }

    private static void sanctionedUserMayDoTheRest() {
        PrecedentHall hall = court();
        decided(hall, hall.file(0, 1, 1, 0), 2, true);
        Checks.due("sanctions, files a report", hall.file(1, 3, 1, 0), 1);
        Checks.due("sanctions, is accused once more", hall.file(0, 1, 2, 0), 2);
        Checks.due("sanctions, gets another weight", hall.setWeight(1, 7), 5);
        Checks.thrown("sanctions, cannot vote", Checks.UNSUPPORTED,
                () -> hall.vote(hall.file(0, 2, 1, 0), 1, true));
        decided(hall, 2, 2, true);
        Checks.due("sanctions, two of one user", hall.sanctions(1), 2);
    }

    // ---- bots

    private static void botsNeedNoQuorum() {
        PrecedentHall hall = court();
        hall.setQuorum(50);
        hall.addBot(0, 50);
        Checks.due("bots, without votes", hall.state(hall.file(0, 1, 1, 50)), 'd');
        Checks.due("bots, guilty", hall.outcome(0), 'g');
        Checks.due("bots, the accused is sanctioned", hall.sanctionedUntil(1), 4);
    }

    private static void botsDecideWhenItIsFiled() {
        PrecedentHall hall = court();
        hall.addBot(0, 60);
        int report = hall.file(0, 1, 1, 60);
        int open = hall.file(0, 1, 1, 59);
        hall.appeal(report);
        decided(hall, report, 2, true);
        Checks.due("bots, more careless now", hall.threshold(0), 59);
        Checks.due("bots, but what is open stays open", hall.state(open), 'o');
        Checks.due("bots, decided by votes", decided(hall, open, 2, true), 'g');
        Checks.due("bots, not by the bot", hall.isByBot(open), false);
    }

    private static void botThatDecidedLearns() {
        PrecedentHall hall = court();
        hall.addBot(0, 61);
        hall.addBot(0, 50);
        int first = hall.file(0, 1, 1, 61);
        int second = hall.file(0, 1, 1, 60);
        hall.appeal(first);
        decided(hall, first, 2, true);
        Checks.due("bots, the first was upheld", hall.threshold(0), 60);
        hall.appeal(second);
        decided(hall, second, 2, false);
        Checks.due("bots, the first did not decide it", hall.threshold(0), 60);
        Checks.due("bots, the second was reversed", hall.threshold(1), 55);
    }

    private static void botsAreOutOnAppeal() {
        PrecedentHall hall = court();
        hall.addBot(0, 50);
        int report = hall.file(0, 1, 1, 100);
        hall.appeal(report);
        Checks.due("bots, no decision at once", hall.state(report), 'e');
        Checks.thrown("bots, their weight makes no quorum", Checks.UNSUPPORTED,
                () -> hall.decide(report));
        Checks.due("bots, their weight is no vote", decided(hall, report, 2, false), 'i');
        Checks.due("bots, the new decision is not theirs", hall.isByBot(report), false);
        Checks.due("bots, it was reversed", hall.wasReversed(report), true);
        Checks.due("bots, more careful now", hall.threshold(0), 55);
    }

    // ---- appeals

    /** The same votes give the same outcome, with the precedent that there is then. */
    private static void appealIsLikeAnOpenReport() {
        PrecedentHall hall = court();
        int report = hall.file(0, 1, 3, 0);
        Checks.due("appeals, at first", decided(hall, report, 2, true), 'g');
        Checks.due("appeals, a later one", decided(hall, hall.file(0, 1, 2, 0), 2, false), 'i');
        hall.appeal(report);
        int like = hall.file(0, 1, 3, 0);
        hall.vote(like, 2, true);
        hall.setWeight(3, 9);
        Checks.due("appeals, against it", decided(hall, hall.file(0, 1, 3, 0), 3, false), 'i');
        Checks.due("appeals, with the precedent of now", hall.decide(report), 'i');
        Checks.due("appeals, as an open one", hall.decide(like), 'i');
    }

    private static void appealOnce() {
        PrecedentHall hall = court();
        int report = hall.file(0, 1, 1, 0);
        decided(hall, report, 2, true);
        Checks.due("appeals, the first", hall.appeal(report), 1);
        Checks.thrown("appeals, while it lasts", Checks.ILLEGAL_STATE,
                () -> hall.appeal(report));
        hall.decide(report);
        hall.pass(100);
        Checks.thrown("appeals, the second", Checks.UNSUPPORTED, () -> hall.appeal(report));
        Checks.due("appeals, it stays decided", hall.state(report), 'd');
    }

    // ---- all of them together

    private static void twoWays() {
        PrecedentHall hall = Courts.full();
        for (int time = 0; time < 2; time++) {
            for (int i = 5; i < 20; i++) {
                int report = i;
                Checks.due("two ways, report " + report,
                        Checks.result(() -> hall.outcomeAnew(report)),
                        Checks.result(() -> hall.outcome(report)));
            }
            hall.pass(50);
        }
    }

    /** What the last of 512 calls answers is due still. */
    private static void fiveHundredAndTwelveCalls() {
        PrecedentHall hall = court();
        int report = hall.file(0, 1, 1, 0);
        int made = 10;
        for (; made < 509; made++) {
            Checks.due("call " + made, hall.vote(report, 2, made % 2 == 0), 5);
        }
        Checks.due("call 510", hall.decide(report), 'g');
        Checks.due("call 511", hall.sanctionedUntil(1), 4);
        Checks.due("call 512", hall.isConsistent(), true);
    }
}
