/** Promises 1 to 6: the new object, and the rules. */
public final class RulesTest {
    private static final int LEAST = Integer.MIN_VALUE;
    private static final int MOST = Integer.MAX_VALUE;

    private RulesTest() {
    }

    public static void main(String[] args) {
        newObject();
        addRule();
        addRuleRefused();
        repeal();
        repealRefused();
        isInForce();
        applying();
        applyingByRankAndNumber();
        conflicts();
        Checks.finish();
    }

    private static PrecedentHall withUsers() {
        PrecedentHall hall = new PrecedentHall();
        hall.addUser(5);
        hall.addUser(5);
        hall.addUser(5);
        return hall;
    }

    private static void newObject() {
        PrecedentHall hall = new PrecedentHall();
        Checks.due("1 today", hall.today(), 0);
        Checks.due("1 decisions", hall.decisions(), 0);
        Checks.due("1 sanctionDays", hall.sanctionDays(), 0L);
        Checks.due("1 isConsistent", hall.isConsistent(), true);
        Checks.due("1 conflicts", hall.conflicts(0), 0);
        Checks.due("1 open reports", hall.count('o'), 0);
        Checks.thrown("1 no rule", Checks.OUT_OF_BOUNDS, () -> hall.isInForce(0, 0));
        Checks.thrown("1 no user", Checks.OUT_OF_BOUNDS, () -> hall.sanctions(0));
        Checks.thrown("1 no bot", Checks.OUT_OF_BOUNDS, () -> hall.threshold(0));
        Checks.thrown("1 no report", Checks.OUT_OF_BOUNDS, () -> hall.state(0));
        Checks.due("1 quorum", hall.setQuorum(50), 5);
        Checks.due("1 objects are apart", new PrecedentHall().setQuorum(1), 5);
    }

    private static void addRule() {
        PrecedentHall hall = new PrecedentHall();
        Checks.due("2 least numbers", hall.addRule(0, true, 0, 1, 1), 0);
        Checks.due("2 greatest numbers", hall.addRule(7, false, 9, 60, 1000), 1);
        hall.pass(10);
        Checks.due("2 tomorrow", hall.addRule(3, true, 4, 5, 11), 2);
        Checks.due("2 not in force today", hall.isInForce(2, 10), false);
        Checks.due("2 in force tomorrow", hall.isInForce(2, 11), true);
        for (int number = 3; number < 12; number++) {
            Checks.due("2 number", hall.addRule(1, true, 1, 1, 20), number);
        }
        Checks.thrown("2 thirteenth", Checks.ILLEGAL_STATE,
                () -> hall.addRule(1, true, 1, 1, 20));
        Checks.thrown("2 thirteenth, out of range too", Checks.ILLEGAL_ARGUMENT,
                () -> hall.addRule(8, true, 1, 1, 20));
    }

    private static void addRuleRefused() {
        PrecedentHall hall = new PrecedentHall();
        hall.pass(10);
        int[][] wrong = {
            {-1, 1, 1, 20}, {8, 1, 1, 20}, {LEAST, 1, 1, 20}, {MOST, 1, 1, 20},
            {1, -1, 1, 20}, {1, 10, 1, 20}, {1, LEAST, 1, 20}, {1, MOST, 1, 20},
            {1, 1, 0, 20}, {1, 1, 61, 20}, {1, 1, LEAST, 20}, {1, 1, MOST, 20},
            {1, 1, 1, 10}, {1, 1, 1, 9}, {1, 1, 1, 1001}, {1, 1, 1, LEAST}, {1, 1, 1, MOST},
        };
        for (int[] row : wrong) {
            Checks.thrown("2 out of range", Checks.ILLEGAL_ARGUMENT,
                    () -> hall.addRule(row[0], true, row[1], row[2], row[3]));
        }
        Checks.due("2 refused rules take no number", hall.addRule(1, true, 1, 1, 11), 0);
    }

    private static void repeal() {
        PrecedentHall hall = new PrecedentHall();
        hall.addRule(0, true, 1, 1, 1);
        hall.addRule(0, true, 1, 1, 5);
        hall.addRule(0, true, 1, 1, 6);
        Checks.due("3 two others, one of them later", hall.repeal(0, 5), 1);
        Checks.due("3 the day before", hall.isInForce(0, 4), true);
        Checks.due("3 the day itself", hall.isInForce(0, 5), false);
        Checks.due("3 long after", hall.isInForce(0, 1000), false);
        Checks.due("3 a day after its first", hall.repeal(1, 6), 1);
        Checks.due("3 the last day", hall.repeal(2, 1000), 0);
        hall.addRule(1, false, 1, 1, 1000);
        hall.addRule(1, false, 1, 1, 1);
        Checks.due("3 ahead of its repeal, a rule counts", hall.repeal(4, 4), 1);
        Checks.due("3 the last day but one", hall.isInForce(2, 999), true);
        Checks.due("3 the last day itself", hall.isInForce(2, 1000), false);
    }

    private static void repealRefused() {
        PrecedentHall hall = new PrecedentHall();
        hall.addRule(0, true, 1, 1, 3);
        hall.addRule(0, true, 1, 1, 8);
        hall.addRule(0, true, 1, 1, 1000);
        hall.pass(5);
        Checks.thrown("3 no such rule", Checks.OUT_OF_BOUNDS, () -> hall.repeal(3, 10));
        Checks.thrown("3 below", Checks.OUT_OF_BOUNDS, () -> hall.repeal(-1, 2000));
        for (int day : new int[] {5, 4, 0, -1, 1001, LEAST, MOST}) {
            Checks.thrown("3 day", Checks.ILLEGAL_ARGUMENT, () -> hall.repeal(0, day));
        }
        Checks.thrown("3 its first day", Checks.ILLEGAL_ARGUMENT, () -> hall.repeal(1, 8));
        Checks.thrown("3 no later day", Checks.ILLEGAL_ARGUMENT,
                () -> hall.repeal(2, 1000));
        Checks.due("3 tomorrow", hall.repeal(0, 6), 0);
        Checks.thrown("3 again", Checks.ILLEGAL_STATE, () -> hall.repeal(0, 7));
        Checks.thrown("3 again, the same day", Checks.ILLEGAL_STATE,
                () -> hall.repeal(0, 6));
        Checks.thrown("3 again, day out of range", Checks.ILLEGAL_ARGUMENT,
                () -> hall.repeal(0, 5));
    }

    private static void isInForce() {
        PrecedentHall hall = new PrecedentHall();
        hall.addRule(0, true, 1, 1, 7);
        Checks.due("4 day 0", hall.isInForce(0, 0), false);
        Checks.due("4 before", hall.isInForce(0, 6), false);
        Checks.due("4 first day", hall.isInForce(0, 7), true);
        Checks.due("4 last day", hall.isInForce(0, 1000), true);
        Checks.thrown("4 no such rule", Checks.OUT_OF_BOUNDS, () -> hall.isInForce(1, 1));
        Checks.thrown("4 below", Checks.OUT_OF_BOUNDS, () -> hall.isInForce(-1, 1001));
        for (int day : new int[] {-1, 1001, LEAST, MOST}) {
            Checks.thrown("4 day", Checks.ILLEGAL_ARGUMENT, () -> hall.isInForce(0, day));
        }
    }

    private static void applying() {
        PrecedentHall hall = withUsers();
        hall.addRule(2, true, 1, 1, 1);
        hall.addRule(3, false, 5, 1, 2);
        hall.repeal(0, 3);
        hall.file(0, 1, 4, 0);
        hall.pass(1);
        hall.file(0, 1, 4, 0);
        hall.file(0, 1, 8, 0);
        hall.file(0, 1, 251, 0);
        hall.pass(1);
        hall.file(0, 1, 255, 0);
        hall.pass(1);
        hall.file(0, 1, 4, 0);
        Checks.thrown("5 ahead of the first day", Checks.NO_ELEMENT, () -> hall.applying(0));
        Checks.due("5 on the first day", hall.applying(1), 0);
        Checks.thrown("5 later rule", Checks.NO_ELEMENT, () -> hall.applying(2));
        Checks.thrown("5 other kinds", Checks.NO_ELEMENT, () -> hall.applying(3));
        Checks.due("5 greatest rank", hall.applying(4), 1);
        Checks.thrown("5 repealed", Checks.NO_ELEMENT, () -> hall.applying(5));
        Checks.due("5 the day of the report counts", hall.applying(1), 0);
        Checks.thrown("5 no report", Checks.OUT_OF_BOUNDS, () -> hall.applying(6));
        Checks.thrown("5 below", Checks.OUT_OF_BOUNDS, () -> hall.applying(-1));
        Checks.thrown("5 none", Checks.NO_ELEMENT, () -> hall.applying(0));
    }

    private static void applyingByRankAndNumber() {
        PrecedentHall hall = withUsers();
        hall.addRule(0, true, 9, 1, 1);
        hall.addRule(1, true, 0, 1, 1);
        hall.addRule(2, false, 9, 1, 1);
        hall.addRule(7, true, 3, 1, 1);
        hall.pass(1);
        hall.file(0, 1, 7, 0);
        hall.file(0, 1, 3, 0);
        hall.file(0, 1, 2, 0);
        hall.file(0, 1, 128 + 2, 0);
        Checks.due("5 greatest number of the same rank", hall.applying(0), 2);
        Checks.due("5 a lower number with a greater rank", hall.applying(1), 0);
        Checks.due("5 rank 0", hall.applying(2), 1);
        Checks.due("5 kind 7", hall.applying(3), 3);
    }

    private static void conflicts() {
        PrecedentHall hall = new PrecedentHall();
        hall.addRule(0, true, 3, 1, 1);
        hall.addRule(0, false, 3, 9, 2);
        hall.addRule(0, false, 3, 1, 3);
        hall.addRule(0, true, 4, 1, 1);
        hall.addRule(1, true, 3, 1, 1);
        hall.addRule(1, false, 2, 1, 1);
        hall.addRule(0, true, 3, 1, 4);
        hall.repeal(1, 5);
        int[] due = {0, 0, 1, 2, 4, 2};
        for (int day = 0; day < due.length; day++) {
            Checks.due("6 day " + day, hall.conflicts(day), due[day]);
        }
        Checks.due("6 last day", hall.conflicts(1000), 2);
        for (int day : new int[] {-1, 1001, LEAST, MOST}) {
            Checks.thrown("6 day", Checks.ILLEGAL_ARGUMENT, () -> hall.conflicts(day));
        }
    }
}
