/** The boundary cases of promises 1 to 6: the new object, and the rules. */
public final class RulesEdgesTest {
    private RulesEdgesTest() {
    }

    public static void main(String[] args) {
        emptyRulesAndPeople();
        emptyReports();
        emptyFigures();
        firstQuorum();
        addRuleNumbers();
        addRuleFirstDay();
        addRuleKinds();
        addRuleDays();
        addRuleFull();
        repealNoRule();
        repealDay();
        repealTwice();
        repealCounts();
        isInForceNumbers();
        isInForceDays();
        applyingNoReport();
        applyingDays();
        applyingRepealed();
        applyingRanks();
        conflictsDays();
        conflictsPairs();
        conflictsFull();
        Checks.finish();
    }

    private static PrecedentHall oneRule() {
        PrecedentHall hall = new PrecedentHall();
        hall.addRule(0, true, 1, 1, 5);
        return hall;
    }

    private static PrecedentHall twelveRules() {
        PrecedentHall hall = Courts.withUsers(4);
        for (int i = 0; i < 12; i++) {
            hall.addRule(0, i % 2 == 0, 1, 1, 5);
        }
        return hall;
    }

    // ---- promise 1

    private static void emptyRulesAndPeople() {
        Edge.Court court = Courts::empty;
        Edge.index("1 rule of repeal", court, 0, (hall, rule) -> hall.repeal(rule, 1));
        Edge.index("1 rule of isInForce", court, 0, (hall, rule) -> hall.isInForce(rule, 0));
        Edge.index("1 user of setWeight", court, 0, (hall, user) -> hall.setWeight(user, 1));
        Edge.index("1 user of sanctions", court, 0, PrecedentHall::sanctions);
        Edge.index("1 user of sanctionedUntil", court, 0, PrecedentHall::sanctionedUntil);
        Edge.index("1 bot of threshold", court, 0, PrecedentHall::threshold);
        Edge.answers("1 conflicts on day 0", 0, court, hall -> hall.conflicts(0));
        Edge.answers("1 conflicts on day 1000", 0, court, hall -> hall.conflicts(1000));
    }

    private static void emptyReports() {
        Edge.Court court = () -> Courts.withUsers(3);
        Edge.index("1 applying", court, 0, PrecedentHall::applying);
        Edge.index("1 state", court, 0, PrecedentHall::state);
        Edge.index("1 vote", court, 0, (hall, report) -> hall.vote(report, 2, true));
        Edge.index("1 weightFor", court, 0, PrecedentHall::weightFor);
        Edge.index("1 weightAgainst", court, 0, PrecedentHall::weightAgainst);
        Edge.index("1 precedent", court, 0, PrecedentHall::precedent);
        Edge.index("1 decide", court, 0, PrecedentHall::decide);
        Edge.index("1 outcome", court, 0, PrecedentHall::outcome);
        Edge.index("1 outcomeAnew", court, 0, PrecedentHall::outcomeAnew);
        Edge.index("1 isByBot", court, 0, PrecedentHall::isByBot);
        Edge.index("1 appeal", court, 0, PrecedentHall::appeal);
        Edge.index("1 wasReversed", court, 0, PrecedentHall::wasReversed);
        Edge.index("1 likeness", court, 0, (hall, report) -> hall.likeness(report, report));
    }

    private static void emptyFigures() {
        Edge.Court court = Courts::empty;
        Edge.answers("1 today", 0, court, PrecedentHall::today);
        Edge.answers("1 decisions", 0, court, PrecedentHall::decisions);
        Edge.answers("1 sanctionDays", 0L, court, PrecedentHall::sanctionDays);
        Edge.answers("1 isConsistent", true, court, PrecedentHall::isConsistent);
        for (char kind : "ogbr".toCharArray()) {
            Edge.answers("1 count " + kind, 0, court, hall -> hall.count(kind));
        }
        Edge.refused("1 meanEvidence", Checks.ARITHMETIC, court, PrecedentHall::meanEvidence);
        Edge.refused("1 reversedShare", Checks.ARITHMETIC, court, PrecedentHall::reversedShare);
    }

    private static PrecedentHall voteOf(int weight) {
        PrecedentHall hall = Courts.withUsers(2);
        hall.addUser(weight);
        hall.file(0, 1, 1, 0);
        hall.vote(0, 2, true);
        return hall;
    }

    private static void firstQuorum() {
        Edge.answers("1 the quorum told", 5, Courts::empty, hall -> hall.setQuorum(1));
        Edge.answers("1 the quorum is reached with 5", 'n', () -> voteOf(5),
                hall -> hall.decide(0));
        Edge.refused("1 the quorum is not reached with 4", Checks.UNSUPPORTED, () -> voteOf(4),
                hall -> hall.decide(0));
    }

    // ---- promise 2

    private static void addRuleNumbers() {
        Edge.range("2 kind", Courts::empty, 0, 7,
                (hall, kind) -> hall.addRule(kind, true, 1, 1, 1));
        Edge.range("2 rank", Courts::empty, 0, 9,
                (hall, rank) -> hall.addRule(1, true, rank, 1, 1));
        Edge.range("2 days", Courts::empty, 1, 60,
                (hall, days) -> hall.addRule(1, true, 1, days, 1));
        Edge.range("2 kind of one that allows", Courts::empty, 0, 7,
                (hall, kind) -> hall.addRule(kind, false, 1, 1, 1));
    }

    private static void addRuleFirstDay() {
        Edge.NumberCall call = (hall, first) -> hall.addRule(1, true, 1, 1, first);
        Edge.range("2 first day, on day 0,", Courts::empty, 1, 1000, call);
        Edge.range("2 first day, on day 10,", () -> Courts.onDay(10), 11, 1000, call);
        Edge.range("2 first day, on day 999,", () -> Courts.onDay(999), 1000, 1000, call);
        Edge.noNumber("2 first day, on day 1000,", () -> Courts.onDay(1000), 1000, call);
        Edge.noNumber("2 first day, on day 1000,", () -> Courts.onDay(1000), 1001, call);
    }

    /** A rule about each kind, the greatest and the least included, applies to this kind alone. */
    private static void addRuleKinds() {
        for (int kind = 0; kind < 8; kind++) {
            PrecedentHall hall = Courts.withUsers(2);
            hall.addRule(kind, true, 1, 1, 1);
            hall.pass(1);
            hall.file(0, 1, 1 << kind, 0);
            hall.file(0, 1, 255 - (1 << kind), 0);
            Checks.due("2 about kind " + kind, hall.applying(0), 0);
            Checks.thrown("2 not about others than kind " + kind, Checks.NO_ELEMENT,
                    () -> hall.applying(1));
        }
    }

    private static void addRuleDays() {
        for (int days : new int[] {1, 60}) {
            PrecedentHall hall = Courts.withUsers(3);
            hall.addRule(0, true, 1, days, 1);
            hall.pass(1);
            Courts.decided(hall, 1, true);
            Checks.due("2 days " + days, hall.sanctionedUntil(1), 1 + days);
        }
    }

    private static void addRuleFull() {
        PrecedentHall hall = new PrecedentHall();
        for (int number = 0; number < 12; number++) {
            Checks.due("2 number", hall.addRule(0, true, 1, 1, 1), number);
        }
        Edge.Court court = RulesEdgesTest::twelveRules;
        Edge.refused("2 thirteenth", Checks.ILLEGAL_STATE, court,
                full -> full.addRule(0, true, 1, 1, 1));
        Edge.refused("2 thirteenth, kind", Checks.ILLEGAL_ARGUMENT, court,
                full -> full.addRule(8, true, 1, 1, 1));
        Edge.refused("2 thirteenth, rank", Checks.ILLEGAL_ARGUMENT, court,
                full -> full.addRule(0, true, 10, 1, 1));
        Edge.refused("2 thirteenth, days", Checks.ILLEGAL_ARGUMENT, court,
                full -> full.addRule(0, true, 1, 0, 1));
        Edge.refused("2 thirteenth, first day", Checks.ILLEGAL_ARGUMENT, court,
                full -> full.addRule(0, true, 1, 1, 0));
        Edge.answers("2 a refused one takes no number", 1, RulesEdgesTest::oneRule, one -> {
            Checks.result(() -> one.addRule(8, true, 1, 1, 1));
            return one.addRule(0, true, 1, 1, 1);
        });
    }

    // ---- promise 3

    private static void repealNoRule() {
        Edge.index("3 rule of one", RulesEdgesTest::oneRule, 1,
                (hall, rule) -> hall.repeal(rule, 6));
        Edge.index("3 rule of twelve", RulesEdgesTest::twelveRules, 12,
                (hall, rule) -> hall.repeal(rule, 6));
        Edge.refused("3 no rule, and no such day", Checks.OUT_OF_BOUNDS, RulesEdgesTest::oneRule,
                hall -> hall.repeal(1, 0));
    }

    private static PrecedentHall ruleOnDay(int first, int day) {
        PrecedentHall hall = new PrecedentHall();
        hall.addRule(0, true, 1, 1, first);
        Courts.passTo(hall, day);
        return hall;
    }

    private static void repealDay() {
        Edge.NumberCall call = (hall, day) -> hall.repeal(0, day);
        Edge.range("3 first day ahead", () -> ruleOnDay(5, 0), 6, 1000, call);
        Edge.range("3 first day is tomorrow", () -> ruleOnDay(5, 4), 6, 1000, call);
        Edge.range("3 first day is today", () -> ruleOnDay(5, 5), 6, 1000, call);
        Edge.range("3 first day has passed", () -> ruleOnDay(5, 7), 8, 1000, call);
        Edge.range("3 on day 999", () -> ruleOnDay(5, 999), 1000, 1000, call);
        Edge.range("3 first day 999", () -> ruleOnDay(999, 0), 1000, 1000, call);
        Edge.noNumber("3 on day 1000", () -> ruleOnDay(5, 1000), 1000, call);
        Edge.noNumber("3 first day 1000", () -> ruleOnDay(1000, 0), 1000, call);
        Edge.noNumber("3 first day 1000", () -> ruleOnDay(1000, 0), 1001, call);
    }

    private static PrecedentHall repealed(int day) {
        PrecedentHall hall = oneRule();
        hall.repeal(0, day);
        return hall;
    }

    private static void repealTwice() {
        Edge.refused("3 earlier", Checks.ILLEGAL_STATE, () -> repealed(8),
                hall -> hall.repeal(0, 6));
        Edge.refused("3 the same day", Checks.ILLEGAL_STATE, () -> repealed(8),
                hall -> hall.repeal(0, 8));
        Edge.refused("3 later", Checks.ILLEGAL_STATE, () -> repealed(8),
                hall -> hall.repeal(0, 1000));
        Edge.refused("3 after day 1000 was told", Checks.ILLEGAL_STATE, () -> repealed(1000),
                hall -> hall.repeal(0, 1000));
        Edge.refused("3 told before, day too early", Checks.ILLEGAL_ARGUMENT, () -> repealed(8),
                hall -> hall.repeal(0, 5));
        Edge.refused("3 told before, day too late", Checks.ILLEGAL_ARGUMENT, () -> repealed(8),
                hall -> hall.repeal(0, 1001));
        Edge.refused("3 when the repeal has come", Checks.ILLEGAL_STATE, () -> {
            PrecedentHall hall = repealed(8);
            hall.pass(8);
            return hall;
        }, hall -> hall.repeal(0, 9));
        for (int day : new int[] {6, 8, 1000}) {
            Edge.answers("3 told again, the day ahead of the repeal", true, () -> repealed(8),
                    hall -> {
                        Checks.result(() -> hall.repeal(0, day));
                        return hall.isInForce(0, 7);
                    });
            Edge.answers("3 told again, the day of the repeal", false, () -> repealed(8),
                    hall -> {
                        Checks.result(() -> hall.repeal(0, day));
                        return hall.isInForce(0, 8);
                    });
        }
        Edge.answers("3 a refused day is not told", 0, RulesEdgesTest::oneRule, hall -> {
            Checks.result(() -> hall.repeal(0, 5));
            return hall.repeal(0, 6);
        });
    }

    private static void repealCounts() {
        Edge.answers("3 none is left", 0, RulesEdgesTest::oneRule, hall -> hall.repeal(0, 6));
        Edge.answers("3 all but itself", 11, RulesEdgesTest::twelveRules,
                hall -> hall.repeal(11, 1000));
        Checks.due("3 another that begins that day", repealBeside(6, 1000), 1);
        Checks.due("3 another that begins a day later", repealBeside(7, 1000), 0);
        Checks.due("3 another that is repealed that day", repealBeside(1, 6), 0);
        Checks.due("3 another that is repealed a day later", repealBeside(1, 7), 1);
    }

    /** What the repeal of a rule on day 6 returns, with another rule beside it. */
    private static int repealBeside(int first, int repealed) {
        PrecedentHall hall = oneRule();
        hall.addRule(1, false, 2, 2, first);
        hall.repeal(1, repealed);
        return hall.repeal(0, 6);
    }

    // ---- promise 4

    private static void isInForceNumbers() {
        Edge.index("4 rule of one", RulesEdgesTest::oneRule, 1,
                (hall, rule) -> hall.isInForce(rule, 0));
        Edge.index("4 rule of twelve", RulesEdgesTest::twelveRules, 12,
                (hall, rule) -> hall.isInForce(rule, 0));
        Edge.range("4 day", RulesEdgesTest::oneRule, 0, 1000,
                (hall, day) -> hall.isInForce(0, day));
        Edge.range("4 day, on day 1000,", () -> ruleOnDay(5, 1000), 0, 1000,
                (hall, day) -> hall.isInForce(0, day));
        Edge.refused("4 no rule, and no such day", Checks.OUT_OF_BOUNDS, RulesEdgesTest::oneRule,
                hall -> hall.isInForce(1, 1001));
    }

    private static void inForce(String what, PrecedentHall hall, int day, boolean want) {
        Checks.due("4 " + what + ", on day " + day, hall.isInForce(0, day), want);
    }

    private static void isInForceDays() {
        PrecedentHall hall = oneRule();
        inForce("the first of all days", hall, 0, false);
        inForce("the day ahead of its first", hall, 4, false);
        inForce("its first day", hall, 5, true);
        inForce("as is known ahead of the repeal", hall, 8, true);
        inForce("the last of all days", hall, 1000, true);
        hall.repeal(0, 8);
        inForce("a repeal changes no day ahead of it", hall, 5, true);
        inForce("the day ahead of its repeal", hall, 7, true);
        inForce("the day of its repeal", hall, 8, false);
        inForce("after its repeal", hall, 1000, false);
        PrecedentHall shortest = repealed(6);
        inForce("a rule of one day", shortest, 5, true);
        inForce("a rule of one day", shortest, 6, false);
        PrecedentHall longest = ruleOnDay(1, 0);
        longest.repeal(0, 1000);
        inForce("repealed on the last of all days", longest, 999, true);
        inForce("repealed on the last of all days", longest, 1000, false);
        PrecedentHall latest = ruleOnDay(1000, 0);
        inForce("a first day that is the last of all days", latest, 999, false);
        inForce("a first day that is the last of all days", latest, 1000, true);
    }

    // ---- promise 5

    private static PrecedentHall filedOn(int day, int repealed) {
        PrecedentHall hall = Courts.withUsers(3);
        hall.addRule(3, true, 1, 1, 5);
        if (repealed > 0) {
            hall.repeal(0, repealed);
        }
        Courts.passTo(hall, day);
        hall.file(0, 1, 8, 0);
        return hall;
    }

    private static void applyingNoReport() {
        Edge.index("5 report of one", () -> filedOn(5, 0), 1, PrecedentHall::applying);
        Edge.index("5 report of six", Courts::busy, 6, PrecedentHall::applying);
        Edge.index("5 report of twenty", Courts::full, 20, PrecedentHall::applying);
        Edge.refused("5 no rules at all", Checks.NO_ELEMENT, () -> {
            PrecedentHall hall = Courts.withUsers(2);
            hall.file(0, 1, 255, 0);
            return hall;
        }, hall -> hall.applying(0));
    }

    private static void applyingDays() {
        Edge.refused("5 filed a day too early", Checks.NO_ELEMENT, () -> filedOn(4, 0),
                hall -> hall.applying(0));
        Edge.answers("5 filed on its first day", 0, () -> filedOn(5, 0),
                hall -> hall.applying(0));
        Edge.answers("5 filed a day ahead of the repeal", 0, () -> filedOn(7, 8),
                hall -> hall.applying(0));
        Edge.refused("5 filed on the day of the repeal", Checks.NO_ELEMENT, () -> filedOn(8, 8),
                hall -> hall.applying(0));
        Edge.answers("5 filed on the last of all days", 0, () -> filedOn(1000, 0),
                hall -> hall.applying(0));
    }

    /** What applies is what was in force on the day of the report, whatever comes later. */
    private static void applyingRepealed() {
        PrecedentHall hall = filedOn(5, 0);
        hall.repeal(0, 6);
        hall.addRule(3, false, 9, 1, 6);
        hall.pass(1);
        hall.file(0, 1, 8, 0);
        Checks.due("5 repealed a day later", hall.applying(0), 0);
        Checks.due("5 filed a day later", hall.applying(1), 1);
    }

    private static void applyingRanks() {
        PrecedentHall same = twelveRules();
        same.pass(5);
        same.file(0, 1, 1, 0);
        Checks.due("5 the greatest number of twelve", same.applying(0), 11);
        PrecedentHall hall = Courts.withUsers(2);
        hall.addRule(0, true, 9, 1, 1);
        hall.addRule(1, true, 8, 1, 1);
        hall.addRule(2, true, 1, 1, 1);
        hall.addRule(3, true, 0, 1, 1);
        hall.pass(1);
        hall.file(0, 1, 255, 0);
        hall.file(0, 1, 254, 0);
        hall.file(0, 1, 252, 0);
        hall.file(0, 1, 248, 0);
        hall.file(0, 1, 240, 0);
        Checks.due("5 rank 9 above 8", hall.applying(0), 0);
        Checks.due("5 rank 8 above 1", hall.applying(1), 1);
        Checks.due("5 rank 1 above 0", hall.applying(2), 2);
        Checks.due("5 rank 0 alone", hall.applying(3), 3);
        Checks.thrown("5 a kind without a rule", Checks.NO_ELEMENT, () -> hall.applying(4));
    }

    // ---- promise 6

    private static void conflictsDays() {
        Edge.range("6 day", Courts::empty, 0, 1000, PrecedentHall::conflicts);
        Edge.range("6 day of twelve rules", RulesEdgesTest::twelveRules, 0, 1000,
                PrecedentHall::conflicts);
        PrecedentHall hall = new PrecedentHall();
        hall.addRule(0, true, 1, 1, 3);
        hall.addRule(0, false, 1, 1, 5);
        hall.repeal(0, 8);
        int[] due = {0, 0, 0, 0, 0, 1, 1, 1, 0};
        for (int day = 0; day < due.length; day++) {
            Checks.due("6 both in force on day " + day, hall.conflicts(day), due[day]);
        }
    }

    private static int conflictsOf(int kind, boolean isForbidding, int rank) {
        PrecedentHall hall = new PrecedentHall();
        hall.addRule(3, true, 5, 1, 1);
        hall.addRule(kind, isForbidding, rank, 60, 1);
        return hall.conflicts(1000);
    }

    private static void conflictsPairs() {
        Checks.due("6 one forbids, the other allows", conflictsOf(3, false, 5), 1);
        Checks.due("6 both forbid", conflictsOf(3, true, 5), 0);
        Checks.due("6 a rank lower", conflictsOf(3, false, 4), 0);
        Checks.due("6 a rank higher", conflictsOf(3, false, 6), 0);
        Checks.due("6 the kind below", conflictsOf(2, false, 5), 0);
        Checks.due("6 the kind above", conflictsOf(4, false, 5), 0);
        PrecedentHall allowing = new PrecedentHall();
        allowing.addRule(3, false, 5, 1, 1);
        allowing.addRule(3, false, 5, 1, 1);
        Checks.due("6 both allow", allowing.conflicts(1), 0);
        Checks.due("6 of one rule", oneRule().conflicts(5), 0);
    }

    private static void conflictsFull() {
        Checks.due("6 six against six", twelveRules().conflicts(5), 36);
        Checks.due("6 on the last of all days", twelveRules().conflicts(1000), 36);
        Checks.due("6 a day too early", twelveRules().conflicts(4), 0);
    }
}
