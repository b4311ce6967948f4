/** The courts that several tests begin with. */
final class Courts {
    private Courts() {
    }

    static PrecedentHall empty() {
        return new PrecedentHall();
    }

    /** A court without anything, on a later day. */
    static PrecedentHall onDay(int day) {
        PrecedentHall hall = new PrecedentHall();
        passTo(hall, day);
        return hall;
    }

    static void passTo(PrecedentHall hall, int day) {
        while (hall.today() < day) {
            hall.pass(Math.min(100, day - hall.today()));
        }
    }

    static PrecedentHall withUsers(int number) {
        PrecedentHall hall = new PrecedentHall();
        for (int i = 0; i < number; i++) {
            hall.addUser(5);
        }
        return hall;
    }

    /** Users 0 to 3 of weight 5; kinds 0 and 1 forbidden for 3 days, kind 2 allowed; day 1. */
    static PrecedentHall small() {
        PrecedentHall hall = withUsers(4);
        hall.addRule(0, true, 1, 3, 1);
        hall.addRule(1, true, 1, 3, 1);
        hall.addRule(2, false, 2, 3, 1);
        hall.pass(1);
        return hall;
    }

    /** Files a report of user 0 about user 1, and decides it by the vote of user 2. */
    static int decided(PrecedentHall hall, int facts, boolean isGuilty) {
        int report = hall.file(0, 1, facts, 0);
        hall.vote(report, 2, isGuilty);
        hall.decide(report);
        return report;
    }

    /** Brings a report under appeal and decides it by the vote of user 2. */
    static void decidedAnew(PrecedentHall hall, int report, boolean isGuilty) {
        hall.appeal(report);
        hall.vote(report, 2, isGuilty);
        hall.decide(report);
    }

    /**
     * Of four users, with one bot: report 0 is open, 1 decided by the bot, 2 under appeal, 3 decided
     * anew, 4 without a rule, 5 open without votes; users 1 and 2 are sanctioned.
     */
    static PrecedentHall busy() {
        PrecedentHall hall = new PrecedentHall();
        for (int i = 0; i < 4; i++) {
            hall.addUser(5 + i);
        }
        hall.addRule(0, true, 1, 10, 1);
        hall.addRule(1, false, 1, 10, 4);
        hall.repeal(1, 9);
        hall.addBot(0, 60);
        hall.pass(1);
        hall.file(0, 1, 1, 10);
        hall.vote(0, 3, true);
        hall.file(0, 1, 1, 60);
        for (int report = 2; report < 5; report++) {
            hall.file(0, 2, report < 4 ? 3 : 2, 10);
            hall.vote(report, 3, true);
            hall.decide(report);
        }
        hall.appeal(2);
        hall.appeal(3);
        hall.decide(3);
        hall.file(0, 1, 1, 10);
        return hall;
    }

    /**
     * With 12 rules, 8 users, 4 bots and 20 reports: the reports 0 to 3 are open, 5 to 9 decided,
     * 10 to 14 under appeal and 15 to 19 decided anew; a bot decided 4, 9, 14 and 19 first.
     */
    static PrecedentHall full() {
        PrecedentHall hall = new PrecedentHall();
        for (int i = 0; i < 12; i++) {
            hall.addRule(i % 8, i != 2, 1, 2 + i, 1 + i);
        }
        for (int i = 0; i < 8; i++) {
            hall.addUser(i + 2);
        }
        for (int i = 0; i < 4; i++) {
            hall.addBot(i, 60 + i);
        }
        hall.pass(2);
        for (int i = 0; i < 20; i++) {
            hall.file(0, 1, 1 + 12 * i, i % 5 == 4 ? 90 : 10);
            bringAlong(hall, i);
        }
        return hall;
    }

    private static void bringAlong(PrecedentHall hall, int report) {
        if (report % 5 != 4) {
            hall.vote(report, 7, true);
        }
        if (report >= 5 && report % 5 != 4) {
            hall.decide(report);
        }
        if (report >= 10) {
            hall.appeal(report);
        }
        if (report >= 15) {
            hall.vote(report, 6, report % 2 == 0);
            hall.decide(report);
        }
    }
}
