/** Promises 26 to 34: days and figures. */
public final class FiguresTest {
    private static final int LEAST = Integer.MIN_VALUE;
    private static final int MOST = Integer.MAX_VALUE;

    private FiguresTest() {
    }

    public static void main(String[] args) {
        todayAndPass();
        passRefused();
        passLapses();
        decisions();
        likeness();
        count();
        meanEvidence();
        reversedShare();
        sanctionDays();
        sanctionDaysOnAppeal();
        isConsistent();
        Checks.finish();
    }

    /** Users 0 to 3 of weight 5; the rules 0 (kind 0, 2 days) and 1 (kind 1, 10 days). */
    private static PrecedentHall court() {
        PrecedentHall hall = new PrecedentHall();
        for (int i = 0; i < 4; i++) {
            hall.addUser(5);
        }
        hall.addRule(0, true, 1, 2, 1);
        hall.addRule(1, true, 1, 10, 1);
        hall.pass(1);
        return hall;
    }

    private static int fileAndDecide(PrecedentHall hall, int facts, int evidence,
            boolean isGuilty) {
        int report = hall.file(0, 1, facts, evidence);
        hall.vote(report, 2, isGuilty);
        hall.decide(report);
        return report;
    }

    private static void appealAndDecide(PrecedentHall hall, int report, boolean isGuilty) {
        hall.appeal(report);
        hall.vote(report, 2, isGuilty);
        hall.decide(report);
    }

    private static void todayAndPass() {
        PrecedentHall hall = new PrecedentHall();
        Checks.due("26 first day", hall.today(), 0);
        Checks.due("27 nothing lapses", hall.pass(1), 0);
        Checks.due("26 a day later", hall.today(), 1);
        Checks.due("27 the most", hall.pass(100), 0);
        Checks.due("26 later", hall.today(), 101);
    }

    private static void passRefused() {
        PrecedentHall hall = new PrecedentHall();
        for (int days : new int[] {0, -1, 101, LEAST, MOST}) {
            Checks.thrown("27 days", Checks.ILLEGAL_ARGUMENT, () -> hall.pass(days));
        }
        for (int i = 0; i < 9; i++) {
            hall.pass(100);
        }
        hall.pass(95);
        Checks.thrown("27 day 1001", Checks.ILLEGAL_STATE, () -> hall.pass(6));
        Checks.thrown("27 too many days", Checks.ILLEGAL_ARGUMENT, () -> hall.pass(101));
        hall.pass(5);
        Checks.due("26 last day", hall.today(), 1000);
        Checks.thrown("27 after the last day", Checks.ILLEGAL_STATE, () -> hall.pass(1));
        Checks.thrown("27 no days", Checks.ILLEGAL_ARGUMENT, () -> hall.pass(0));
        Checks.thrown("2 no later day", Checks.ILLEGAL_ARGUMENT,
                () -> hall.addRule(0, true, 0, 1, 1000));
    }

    private static void passLapses() {
        PrecedentHall hall = court();
        fileAndDecide(hall, 1, 0, true);
        fileAndDecide(hall, 2, 0, true);
        int ended = fileAndDecide(hall, 1, 0, true);
        hall.appeal(ended);
        Checks.due("27 none yet", hall.pass(1), 0);
        fileAndDecide(hall, 1, 0, true);
        Checks.due("27 one, without the one that ended", hall.pass(1), 1);
        Checks.due("27 another", hall.pass(1), 1);
        Checks.due("27 none between", hall.pass(6), 0);
        fileAndDecide(hall, 2, 0, true);
        fileAndDecide(hall, 1, 0, true);
        Checks.due("27 two, one of them late", hall.pass(3), 2);
        Checks.due("27 the last one, late", hall.pass(100), 1);
        Checks.due("27 none is left", hall.pass(100), 0);
    }

    private static void decisions() {
        PrecedentHall hall = court();
        hall.addBot(1, 60);
        int report = fileAndDecide(hall, 1, 0, true);
        Checks.due("28 one", hall.decisions(), 1);
        hall.file(0, 1, 2, 60);
        Checks.due("28 a bot's", hall.decisions(), 2);
        hall.file(0, 1, 1, 0);
        Checks.due("28 none for an open one", hall.decisions(), 2);
        hall.appeal(report);
        Checks.due("28 an appeal is none", hall.decisions(), 2);
        hall.decide(report);
        Checks.due("28 a new decision is one", hall.decisions(), 3);
        fileAndDecide(hall, 128, 0, true);
        Checks.due("28 without a rule too", hall.decisions(), 4);
    }

    private static void likeness() {
        PrecedentHall hall = court();
        hall.file(0, 1, 255, 0);
        hall.file(0, 1, 129, 0);
        hall.file(2, 3, 126, 0);
        Checks.due("29 two of all", hall.likeness(0, 1), 2);
        Checks.due("29 six of all", hall.likeness(2, 0), 6);
        Checks.due("29 none", hall.likeness(1, 2), 0);
        Checks.due("29 itself", hall.likeness(0, 0), 8);
        Checks.thrown("29 no report", Checks.OUT_OF_BOUNDS, () -> hall.likeness(3, 0));
        Checks.thrown("29 no other", Checks.OUT_OF_BOUNDS, () -> hall.likeness(0, 3));
        Checks.thrown("29 below", Checks.OUT_OF_BOUNDS, () -> hall.likeness(-1, 0));
        Checks.thrown("29 other below", Checks.OUT_OF_BOUNDS, () -> hall.likeness(0, -1));
    }

    private static void count() {
        PrecedentHall hall = court();
        PrecedentHall single = court();
        single.file(0, 1, 1, 60);
        counted(single, "of one", 1, 0, 0, 0);
        single.vote(0, 2, true);
        single.decide(0);
        counted(single, "of one decided", 0, 1, 0, 0);
        hall.addBot(0, 60);
        hall.addBot(2, 60);
        int first = hall.file(0, 1, 1, 60);
        int second = hall.file(0, 1, 4, 60);
        hall.file(0, 1, 1, 59);
        int fourth = fileAndDecide(hall, 1, 0, true);
        fileAndDecide(hall, 1, 0, false);
        counted(hall, "at first", 1, 2, 2, 0);
        hall.appeal(first);
        hall.appeal(fourth);
        counted(hall, "under appeal", 1, 0, 1, 0);
        hall.vote(first, 2, false);
        hall.decide(first);
        hall.decide(fourth);
        counted(hall, "decided anew", 1, 1, 1, 1);
        appealAndDecide(hall, second, true);
        counted(hall, "'n' upheld", 1, 1, 0, 1);
        for (char kind : new char[] {'d', 'e', 'n', 'w', 'i', 'O', 'a', 'c', 0, '\uffff'}) {
            Checks.thrown("30 kind", Checks.ILLEGAL_ARGUMENT, () -> hall.count(kind));
        }
    }

    private static void counted(PrecedentHall hall, String when, int open, int guilty, int byBots,
            int reversed) {
        Checks.due("30 open " + when, hall.count('o'), open);
        Checks.due("30 guilty " + when, hall.count('g'), guilty);
        Checks.due("30 by bots " + when, hall.count('b'), byBots);
        Checks.due("30 reversed " + when, hall.count('r'), reversed);
    }

    private static void meanEvidence() {
        PrecedentHall hall = court();
        hall.file(0, 1, 1, 50);
        fileAndDecide(hall, 1, 90, false);
        Checks.thrown("31 none", Checks.ARITHMETIC, hall::meanEvidence);
        int first = fileAndDecide(hall, 1, 0, true);
        Checks.due("31 nought", hall.meanEvidence(), 0.0);
        fileAndDecide(hall, 1, 99, true);
        fileAndDecide(hall, 1, 1, true);
        Checks.due("31 of three", hall.meanEvidence(), 100.0 / 3.0);
        hall.appeal(first);
        Checks.due("31 without the one under appeal", hall.meanEvidence(), 50.0);
        PrecedentHall other = court();
        fileAndDecide(other, 1, 7, true);
        Checks.due("31 the first report counts", other.meanEvidence(), 7.0);
    }

    private static void reversedShare() {
        PrecedentHall hall = court();
        int first = fileAndDecide(hall, 1, 0, true);
        int second = fileAndDecide(hall, 1, 0, true);
        int third = fileAndDecide(hall, 1, 0, true);
        hall.appeal(first);
        Checks.thrown("32 none", Checks.ARITHMETIC, hall::reversedShare);
        hall.decide(first);
        Checks.due("32 none of one", hall.reversedShare(), 0.0f);
        appealAndDecide(hall, second, false);
        Checks.due("32 one of two", hall.reversedShare(), 0.5f);
        appealAndDecide(hall, third, true);
        Checks.due("32 one of three", hall.reversedShare(), 1.0f / 3.0f);
    }

    private static void sanctionDays() {
        PrecedentHall hall = court();
        fileAndDecide(hall, 1, 0, true);
        Checks.due("33 the day has not ended", hall.sanctionDays(), 0L);
        hall.pass(1);
        Checks.due("33 one day", hall.sanctionDays(), 1L);
        fileAndDecide(hall, 2, 0, true);
        hall.pass(1);
        Checks.due("33 both on one day", hall.sanctionDays(), 3L);
        hall.pass(4);
        Checks.due("33 the first has lapsed", hall.sanctionDays(), 7L);
        hall.pass(100);
        Checks.due("33 both have lapsed", hall.sanctionDays(), 12L);
    }

    private static void sanctionDaysOnAppeal() {
        PrecedentHall hall = court();
        int longer = fileAndDecide(hall, 2, 0, true);
        hall.pass(3);
        hall.appeal(longer);
        Checks.due("33 the days before stay", hall.sanctionDays(), 3L);
        hall.pass(4);
        Checks.due("33 none after the end", hall.sanctionDays(), 3L);
        hall.decide(longer);
        hall.pass(100);
        Checks.due("33 the new sanction", hall.sanctionDays(), 13L);
        int lapsed = fileAndDecide(hall, 1, 0, true);
        hall.pass(5);
        hall.appeal(lapsed);
        Checks.due("33 an appeal after it lapsed", hall.sanctionDays(), 15L);
        int sameDay = fileAndDecide(hall, 2, 0, true);
        hall.appeal(sameDay);
        hall.pass(1);
        Checks.due("33 ended on its first day", hall.sanctionDays(), 15L);
    }

    private static void isConsistent() {
        PrecedentHall hall = court();
        hall.addBot(0, 100);
        Checks.due("34 at first", hall.isConsistent(), true);
        int report = hall.file(0, 1, 3, 0);
        Checks.due("34 open", hall.isConsistent(), true);
        hall.vote(report, 2, true);
        hall.decide(report);
        int byBot = hall.file(0, 1, 3, 100);
        Checks.due("34 decided", hall.isConsistent(), true);
        hall.appeal(report);
        hall.appeal(byBot);
        Checks.due("34 under appeal", hall.isConsistent(), true);
        hall.vote(byBot, 2, false);
        hall.decide(byBot);
        hall.vote(report, 2, true);
        Checks.due("34 a precedent against it", hall.decide(report), 'i');
        Checks.due("34 decided anew", hall.isConsistent(), true);
        Checks.due("12 bound kept", hall.threshold(0), 100);
    }
}
