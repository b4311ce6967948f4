/** Promises 13 to 25: reports, votes and decisions. */
public final class ReportsTest {
    private static final int LEAST = Integer.MIN_VALUE;
    private static final int MOST = Integer.MAX_VALUE;

    private ReportsTest() {
    }

    public static void main(String[] args) {
        file();
        fileRefused();
        fileWithBots();
        state();
        vote();
        voteRefused();
        weights();
        setQuorum();
        precedent();
        precedentDecidedLast();
        decide();
        decideRefused();
        decideWithPrecedents();
        botsWithPrecedents();
        outcome();
        outcomeAnew();
        outcomeAnewTwice();
        isByBot();
        appeal();
        wasReversed();
        wasReversedToGuilty();
        Checks.finish();
    }

    /** Users 0 to 4 of weights 5, 5, 5, 5, 1; kinds 0 to 2 forbidden for 3 days, kind 3 allowed. */
    private static PrecedentHall court() {
        PrecedentHall hall = new PrecedentHall();
        for (int weight : new int[] {5, 5, 5, 5, 1}) {
            hall.addUser(weight);
        }
        for (int kind = 0; kind < 4; kind++) {
            hall.addRule(kind, kind < 3, kind, 3, 1);
        }
        hall.pass(1);
        return hall;
    }

    private static int fileAndDecide(PrecedentHall hall, int facts, boolean isGuilty) {
        int report = hall.file(0, 1, facts, 0);
        hall.vote(report, 2, isGuilty);
        hall.decide(report);
        return report;
    }

    private static void file() {
        PrecedentHall hall = court();
        Checks.due("13 least numbers", hall.file(0, 1, 1, 0), 0);
        Checks.due("13 greatest numbers", hall.file(4, 3, 255, 100), 1);
        Checks.due("13 open without bots", hall.state(1), 'o');
        for (int number = 2; number < 20; number++) {
            Checks.due("13 number", hall.file(1, 0, 16, 50), number);
        }
        Checks.thrown("13 twenty-first", Checks.ILLEGAL_STATE,
                () -> hall.file(0, 1, 1, 0));
        Checks.thrown("13 twenty-first, evidence", Checks.ILLEGAL_ARGUMENT,
                () -> hall.file(0, 1, 1, 101));
        Checks.thrown("13 twenty-first, no user", Checks.OUT_OF_BOUNDS,
                () -> hall.file(0, 5, 1, 101));
        PrecedentHall other = court();
        fileAndDecide(other, 1, true);
        Checks.due("13 a sanctioned user can file", other.file(1, 0, 1, 0), 1);
    }

    private static void fileRefused() {
        PrecedentHall hall = court();
        int[][] nobody = {{-1, 1, 1, 0}, {5, 1, 1, 0}, {0, -1, 1, 0}, {0, 5, 1, 0},
            {LEAST, 0, 0, 0}, {0, MOST, 0, 0}, {-1, -1, 1, 0}, {7, 7, 300, 0}};
        for (int[] row : nobody) {
            Checks.thrown("13 no such user", Checks.OUT_OF_BOUNDS,
                    () -> hall.file(row[0], row[1], row[2], row[3]));
        }
        int[][] wrong = {{0, 0, 1, 0}, {4, 4, 1, 0}, {0, 1, 0, 0}, {0, 1, 256, 0}, {0, 1, -1, 0},
            {0, 1, LEAST, 0}, {0, 1, MOST, 0}, {0, 1, 1, -1}, {0, 1, 1, 101}, {0, 1, 1, LEAST},
            {0, 1, 1, MOST}};
        for (int[] row : wrong) {
            Checks.thrown("13 out of range", Checks.ILLEGAL_ARGUMENT,
                    () -> hall.file(row[0], row[1], row[2], row[3]));
        }
        Checks.due("13 refused reports take no number", hall.file(0, 1, 1, 0), 0);
    }

    private static void fileWithBots() {
        PrecedentHall hall = court();
        hall.addBot(0, 70);
        hall.addBot(1, 60);
        hall.addBot(0, 50);
        Checks.due("13 below the threshold", hall.state(hall.file(0, 1, 2, 59)), 'o');
        Checks.due("13 other kinds", hall.state(hall.file(0, 1, 4, 100)), 'o');
        int first = hall.file(0, 1, 3, 70);
        Checks.due("13 decided at once", hall.state(first), 'd');
        Checks.due("13 the weights are not votes", hall.weightFor(first), 0);
        Checks.due("13 guilty", hall.outcome(first), 'g');
        Checks.due("13 sanctioned", hall.sanctions(1), 1);
        Checks.due("13 it is a decision", hall.decisions(), 1);
        upholdBy(hall, first);
        Checks.due("13 the lowest number decides", hall.threshold(0), 69);
        int second = hall.file(0, 1, 3, 68);
        upholdBy(hall, second);
        Checks.due("13 the next whose threshold is kept", hall.threshold(1), 59);
        int third = hall.file(0, 1, 3, 50);
        upholdBy(hall, third);
        Checks.due("13 the last one", hall.threshold(2), 50);
        Checks.due("13 the first ones stay", hall.threshold(0) + hall.threshold(1), 128);
    }

    private static void upholdBy(PrecedentHall hall, int report) {
        hall.appeal(report);
        hall.vote(report, 2, true);
        hall.decide(report);
    }

    private static void state() {
        PrecedentHall hall = court();
        int report = hall.file(0, 1, 1, 0);
        Checks.due("14 open", hall.state(report), 'o');
        hall.vote(report, 2, true);
        Checks.due("14 still open", hall.state(report), 'o');
        hall.decide(report);
        Checks.due("14 decided", hall.state(report), 'd');
        hall.appeal(report);
        Checks.due("14 under appeal", hall.state(report), 'e');
        hall.decide(report);
        Checks.due("14 decided again", hall.state(report), 'd');
        Checks.thrown("14 no report", Checks.OUT_OF_BOUNDS, () -> hall.state(1));
        Checks.thrown("14 below", Checks.OUT_OF_BOUNDS, () -> hall.state(-1));
        Checks.thrown("14 far below", Checks.OUT_OF_BOUNDS, () -> hall.state(LEAST));
        Checks.thrown("14 far above", Checks.OUT_OF_BOUNDS, () -> hall.state(MOST));
    }

    private static void vote() {
        PrecedentHall hall = court();
        int report = hall.file(0, 1, 1, 0);
        Checks.due("15 first vote", hall.vote(report, 2, true), 5);
        Checks.due("15 second vote", hall.vote(report, 4, false), 6);
        Checks.due("15 replaced by the other side", hall.vote(report, 2, false), 6);
        Checks.due("15 nothing for it any more", hall.weightFor(report), 0);
        Checks.due("15 replaced by the same side", hall.vote(report, 2, false), 6);
        hall.decide(report);
        hall.appeal(report);
        Checks.due("15 under appeal, the votes stay", hall.vote(report, 3, true), 11);
        int other = hall.file(1, 0, 1, 0);
        Checks.due("15 each report has its own votes", hall.vote(other, 3, true), 5);
    }

    private static void voteRefused() {
        PrecedentHall hall = court();
        int done = fileAndDecide(hall, 1, true);
        int report = hall.file(3, 2, 1, 0);
        Checks.thrown("15 no report", Checks.OUT_OF_BOUNDS, () -> hall.vote(2, 4, true));
        Checks.thrown("15 report below", Checks.OUT_OF_BOUNDS,
                () -> hall.vote(-1, 4, true));
        Checks.thrown("15 no user", Checks.OUT_OF_BOUNDS, () -> hall.vote(done, 5, true));
        Checks.thrown("15 user below", Checks.OUT_OF_BOUNDS, () -> hall.vote(report, -1, true));
        Checks.thrown("15 decided", Checks.ILLEGAL_STATE, () -> hall.vote(done, 4, true));
        Checks.thrown("15 decided, a party", Checks.ILLEGAL_STATE, () -> hall.vote(done, 0, true));
        Checks.thrown("15 the reporter", Checks.UNSUPPORTED,
                () -> hall.vote(report, 3, false));
        Checks.thrown("15 the accused", Checks.UNSUPPORTED, () -> hall.vote(report, 2, true));
        Checks.thrown("15 sanctioned", Checks.UNSUPPORTED,
                () -> hall.vote(report, 1, true));
        hall.pass(2);
        Checks.thrown("15 sanctioned, last day", Checks.UNSUPPORTED,
                () -> hall.vote(report, 1, true));
        hall.pass(1);
        Checks.due("15 lapsed", hall.vote(report, 1, true), 5);
        PrecedentHall other = court();
        int ended = fileAndDecide(other, 1, true);
        int open = other.file(0, 2, 1, 0);
        other.appeal(ended);
        Checks.due("15 ended by the appeal", other.vote(open, 1, true), 5);
    }

    private static void weights() {
        PrecedentHall hall = court();
        int report = hall.file(0, 1, 1, 0);
        Checks.due("16 none", hall.weightFor(report), 0);
        Checks.due("17 none", hall.weightAgainst(report), 0);
        hall.vote(report, 2, true);
        hall.vote(report, 4, true);
        hall.vote(report, 3, false);
        Checks.due("16 sum", hall.weightFor(report), 6);
        Checks.due("17 sum", hall.weightAgainst(report), 5);
        hall.vote(report, 4, false);
        Checks.due("16 after a change", hall.weightFor(report), 5);
        Checks.due("17 after a change", hall.weightAgainst(report), 6);
        hall.decide(report);
        hall.appeal(report);
        Checks.due("16 on appeal", hall.weightFor(report), 5);
        Checks.due("17 on appeal", hall.weightAgainst(report), 6);
        Checks.thrown("16 no report", Checks.OUT_OF_BOUNDS, () -> hall.weightFor(1));
        Checks.thrown("16 below", Checks.OUT_OF_BOUNDS, () -> hall.weightFor(-1));
        Checks.thrown("17 no report", Checks.OUT_OF_BOUNDS, () -> hall.weightAgainst(1));
        Checks.thrown("17 below", Checks.OUT_OF_BOUNDS, () -> hall.weightAgainst(-1));
        PrecedentHall full = new PrecedentHall();
        for (int i = 0; i < 8; i++) {
            full.addUser(9);
        }
        full.file(0, 1, 1, 0);
        for (int user = 2; user < 8; user++) {
            full.vote(0, user, user % 2 == 0);
        }
        Checks.due("16 of eight users", full.weightFor(0), 27);
        Checks.due("17 of eight users", full.weightAgainst(0), 27);
    }

    private static void setQuorum() {
        PrecedentHall hall = court();
        Checks.due("18 previous", hall.setQuorum(1), 5);
        Checks.due("18 the least", hall.setQuorum(50), 1);
        Checks.due("18 the greatest", hall.setQuorum(6), 50);
        for (int weight : new int[] {0, 51, -1, LEAST, MOST}) {
            Checks.thrown("18 quorum", Checks.ILLEGAL_ARGUMENT,
                    () -> hall.setQuorum(weight));
        }
        int report = hall.file(0, 1, 1, 0);
        hall.vote(report, 2, true);
        Checks.thrown("18 counts", Checks.UNSUPPORTED, () -> hall.decide(report));
        hall.setQuorum(5);
        Checks.due("18 counts at once", hall.decide(report), 'g');
    }

    private static void precedent() {
        PrecedentHall hall = court();
        int open = hall.file(0, 1, 7, 0);
        Checks.thrown("19 no decision", Checks.NO_ELEMENT, () -> hall.precedent(open));
        int one = fileAndDecide(hall, 1, true);
        Checks.thrown("19 a likeness of 1", Checks.NO_ELEMENT, () -> hall.precedent(open));
        Checks.thrown("19 not itself", Checks.NO_ELEMENT, () -> hall.precedent(one));
        fileAndDecide(hall, 8 + 7, true);
        Checks.thrown("19 outcome 'w'", Checks.NO_ELEMENT, () -> hall.precedent(open));
        int both = fileAndDecide(hall, 3, true);
        Checks.due("19 a likeness of 2", hall.precedent(open), both);
        int most = fileAndDecide(hall, 7, false);
        Checks.due("19 the greatest likeness", hall.precedent(open), most);
        fileAndDecide(hall, 6, true);
        Checks.due("19 though another is later", hall.precedent(open), most);
        Checks.due("19 of a decided one", hall.precedent(both), most);
        hall.appeal(most);
        Checks.due("19 without the one under appeal", hall.precedent(open), 5);
        Checks.due("19 of the one under appeal", hall.precedent(most), 5);
        Checks.thrown("19 no report", Checks.OUT_OF_BOUNDS, () -> hall.precedent(6));
        Checks.thrown("19 below", Checks.OUT_OF_BOUNDS, () -> hall.precedent(-1));
        PrecedentHall lawless = new PrecedentHall();
        for (int i = 0; i < 3; i++) {
            lawless.addUser(5);
        }
        fileAndDecide(lawless, 255, true);
        lawless.file(0, 1, 255, 0);
        Checks.thrown("19 outcome 'n'", Checks.NO_ELEMENT, () -> lawless.precedent(1));
    }

    private static void precedentDecidedLast() {
        PrecedentHall hall = court();
        int asked = hall.file(0, 1, 3, 0);
        int early = hall.file(0, 1, 3, 0);
        int late = hall.file(0, 1, 3, 0);
        hall.vote(early, 2, true);
        hall.vote(late, 2, true);
        hall.decide(late);
        hall.decide(early);
        Checks.due("19 decided last, not filed last", hall.precedent(asked), early);
        hall.appeal(late);
        hall.decide(late);
        Checks.due("19 the new decision counts", hall.precedent(asked), late);
        Checks.due("19 of the other", hall.precedent(late), early);
    }

    private static void decide() {
        PrecedentHall hall = court();
        Checks.due("20 none applies", voteAndDecide(hall, 16, 5, 0), 'n');
        Checks.due("20 allowed", voteAndDecide(hall, 8, 5, 0), 'w');
        Checks.due("20 the greater rank allows", voteAndDecide(hall, 9, 5, 0), 'w');
        Checks.due("20 guilty", voteAndDecide(hall, 1, 5, 1), 'g');
        Checks.due("20 as much against it", voteAndDecide(hall, 1, 5, 5), 'i');
        Checks.due("20 innocent", voteAndDecide(hall, 1, 0, 5), 'i');
        Checks.due("20 decisions", hall.decisions(), 6);
        Checks.due("20 only 'g' is sanctioned", hall.sanctions(1), 1);
        PrecedentHall early = new PrecedentHall();
        for (int i = 0; i < 3; i++) {
            early.addUser(5);
        }
        early.addRule(0, true, 1, 1, 1);
        early.file(0, 1, 1, 0);
        early.vote(0, 2, true);
        early.pass(1);
        Checks.due("20 the rules of the day of the report", early.decide(0), 'n');
    }

    /** Weights of 5 come from the users 2 (for) and 3 (against), a weight of 1 from user 4. */
    private static char voteAndDecide(PrecedentHall hall, int facts, int pro, int contra) {
        int report = hall.file(0, 1, facts, 0);
        if (pro == 5) {
            hall.vote(report, 2, true);
        }
        if (contra == 5) {
            hall.vote(report, 3, false);
        }
        if (contra == 1) {
            hall.vote(report, 4, false);
        }
        return hall.decide(report);
    }

    private static void decideRefused() {
        PrecedentHall hall = court();
        int report = hall.file(0, 1, 8, 100);
        Checks.thrown("20 no report", Checks.OUT_OF_BOUNDS, () -> hall.decide(1));
        Checks.thrown("20 below", Checks.OUT_OF_BOUNDS, () -> hall.decide(-1));
        Checks.thrown("20 no votes", Checks.UNSUPPORTED, () -> hall.decide(report));
        hall.vote(report, 4, true);
        Checks.thrown("20 below the quorum", Checks.UNSUPPORTED, () -> hall.decide(report));
        hall.setWeight(4, 4);
        hall.setQuorum(9);
        hall.vote(report, 4, true);
        hall.vote(report, 3, false);
        Checks.due("20 both sides make the quorum", hall.decide(report), 'w');
        hall.setQuorum(50);
        Checks.thrown("20 decided", Checks.ILLEGAL_STATE, () -> hall.decide(report));
        hall.appeal(report);
        Checks.thrown("20 the quorum on appeal", Checks.UNSUPPORTED,
                () -> hall.decide(report));
    }

    private static void decideWithPrecedents() {
        PrecedentHall hall = court();
        fileAndDecide(hall, 3, true);
        Checks.due("20 'g' adds 5 for it", voteAndDecide(hall, 3, 5, 5), 'g');
        PrecedentHall other = court();
        fileAndDecide(other, 3, false);
        other.setWeight(2, 6);
        Checks.due("20 'i' adds 5 against it, 6 is more", voteAndDecide(other, 3, 5, 0), 'g');
        fileAndDecide(other, 5, false);
        other.setWeight(2, 5);
        Checks.due("20 'i' adds 5 against it", voteAndDecide(other, 5, 5, 0), 'i');
        PrecedentHall less = court();
        fileAndDecide(less, 3, true);
        less.setWeight(3, 4);
        less.setQuorum(4);
        Checks.due("20 'g' adds 5, not less", voteAndDecide(less, 3, 0, 5), 'g');
        PrecedentHall more = court();
        fileAndDecide(more, 3, true);
        Checks.due("20 'g' adds 5, not more", voteAndDecide(more, 3, 0, 5), 'i');
        PrecedentHall quorum = court();
        fileAndDecide(quorum, 3, true);
        quorum.file(0, 1, 3, 0);
        quorum.vote(1, 4, true);
        Checks.thrown("20 a precedent makes no quorum", Checks.UNSUPPORTED,
                () -> quorum.decide(1));
    }

    private static void botsWithPrecedents() {
        PrecedentHall hall = court();
        hall.addBot(0, 50);
        int first = hall.file(0, 1, 3, 0);
        hall.vote(first, 2, false);
        hall.decide(first);
        Checks.due("13 59 makes 5, against 5", hall.outcome(hall.file(0, 1, 3, 59)), 'i');
        Checks.due("13 60 makes 6, against 5", hall.outcome(hall.file(0, 1, 3, 60)), 'g');
        Checks.due("13 50 makes 5, and 5", hall.outcome(hall.file(0, 1, 3, 50)), 'g');
        Checks.due("13 a rule that allows", hall.outcome(hall.file(0, 1, 9, 100)), 'w');
        Checks.due("22 59", hall.outcomeAnew(1), 'i');
        Checks.due("22 60", hall.outcomeAnew(2), 'g');
    }

    private static void outcome() {
        PrecedentHall hall = court();
        int report = hall.file(0, 1, 3, 0);
        Checks.thrown("21 open", Checks.NO_ELEMENT, () -> hall.outcome(report));
        hall.vote(report, 2, true);
        hall.decide(report);
        Checks.due("21 guilty", hall.outcome(report), 'g');
        int later = fileAndDecide(hall, 3, false);
        Checks.due("21 with its precedent", hall.outcome(later), 'i');
        hall.appeal(report);
        Checks.thrown("21 under appeal", Checks.NO_ELEMENT, () -> hall.outcome(report));
        hall.vote(report, 2, false);
        hall.decide(report);
        Checks.due("21 the new decision", hall.outcome(report), 'i');
        Checks.thrown("21 no report", Checks.OUT_OF_BOUNDS, () -> hall.outcome(2));
        Checks.thrown("21 below", Checks.OUT_OF_BOUNDS, () -> hall.outcome(-1));
    }

    private static void outcomeAnew() {
        PrecedentHall hall = court();
        int first = hall.file(0, 1, 3, 0);
        Checks.thrown("22 open", Checks.NO_ELEMENT, () -> hall.outcomeAnew(first));
        hall.vote(first, 2, true);
        hall.decide(first);
        int second = hall.file(0, 1, 3, 0);
        hall.vote(second, 2, true);
        hall.vote(second, 3, false);
        Checks.due("22 by its precedent", hall.decide(second), 'g');
        hall.appeal(first);
        Checks.thrown("22 under appeal", Checks.NO_ELEMENT, () -> hall.outcomeAnew(first));
        Checks.due("22 the precedent of then counts", hall.outcomeAnew(second), 'g');
        int third = hall.file(0, 1, 7, 0);
        hall.vote(third, 2, true);
        hall.vote(third, 3, false);
        hall.appeal(second);
        Checks.due("22 no precedent under appeal", hall.decide(third), 'i');
        hall.vote(first, 2, false);
        hall.decide(first);
        hall.decide(second);
        for (int report = 0; report < 3; report++) {
            Checks.due("22 all innocent", hall.outcomeAnew(report), 'i');
            Checks.due("22 the same", hall.outcomeAnew(report), hall.outcome(report));
        }
        hall.setWeight(2, 9);
        hall.repeal(0, 9);
        Checks.due("22 later weights and rules do not count", hall.outcomeAnew(third), 'i');
        Checks.thrown("22 no report", Checks.OUT_OF_BOUNDS, () -> hall.outcomeAnew(3));
        Checks.thrown("22 below", Checks.OUT_OF_BOUNDS, () -> hall.outcomeAnew(-1));
    }

    private static void outcomeAnewTwice() {
        PrecedentHall hall = court();
        int last = hall.file(0, 1, 3, 0);
        int first = hall.file(0, 1, 3, 0);
        hall.vote(first, 2, true);
        hall.vote(first, 3, false);
        hall.decide(first);
        hall.setWeight(2, 9);
        hall.vote(last, 2, true);
        hall.decide(last);
        for (int i = 0; i < 3; i++) {
            Checks.due("22 a later decision is no precedent", hall.outcomeAnew(first), 'i');
            Checks.due("22 with an earlier one against it", hall.outcomeAnew(last), 'g');
        }
    }

    private static void isByBot() {
        PrecedentHall hall = court();
        hall.addBot(0, 60);
        int open = hall.file(0, 1, 1, 59);
        Checks.thrown("23 open", Checks.NO_ELEMENT, () -> hall.isByBot(open));
        hall.vote(open, 2, true);
        hall.decide(open);
        Checks.due("23 by votes", hall.isByBot(open), false);
        int report = hall.file(0, 1, 1, 60);
        Checks.due("23 by a bot", hall.isByBot(report), true);
        hall.appeal(report);
        Checks.thrown("23 under appeal", Checks.NO_ELEMENT, () -> hall.isByBot(report));
        hall.vote(report, 2, true);
        hall.decide(report);
        Checks.due("23 on appeal by votes", hall.isByBot(report), false);
        Checks.thrown("23 no report", Checks.OUT_OF_BOUNDS, () -> hall.isByBot(2));
        Checks.thrown("23 below", Checks.OUT_OF_BOUNDS, () -> hall.isByBot(-1));
    }

    private static void appeal() {
        PrecedentHall hall = court();
        int open = hall.file(0, 1, 1, 0);
        Checks.thrown("24 open", Checks.ILLEGAL_STATE, () -> hall.appeal(open));
        int first = fileAndDecide(hall, 1, true);
        int second = fileAndDecide(hall, 1, false);
        Checks.due("24 one", hall.appeal(first), 1);
        Checks.due("24 two", hall.appeal(second), 2);
        Checks.thrown("24 under appeal", Checks.ILLEGAL_STATE, () -> hall.appeal(first));
        hall.decide(first);
        Checks.thrown("24 again", Checks.UNSUPPORTED, () -> hall.appeal(first));
        int third = fileAndDecide(hall, 16, true);
        Checks.due("24 only those under appeal now", hall.appeal(third), 2);
        Checks.due("24 an appeal is no decision", hall.decisions(), 4);
        Checks.thrown("24 no report", Checks.OUT_OF_BOUNDS, () -> hall.appeal(4));
        Checks.thrown("24 below", Checks.OUT_OF_BOUNDS, () -> hall.appeal(-1));
    }

    private static void wasReversed() {
        PrecedentHall hall = court();
        int report = fileAndDecide(hall, 1, true);
        Checks.due("25 no appeal", hall.wasReversed(report), false);
        hall.appeal(report);
        hall.vote(report, 2, false);
        Checks.due("25 no new decision", hall.wasReversed(report), false);
        hall.decide(report);
        Checks.due("25 reversed", hall.wasReversed(report), true);
        Checks.due("9 no new sanction", hall.sanctions(1), 0);
        int upheld = fileAndDecide(hall, 1, true);
        hall.appeal(upheld);
        hall.decide(upheld);
        Checks.due("25 upheld", hall.wasReversed(upheld), false);
        Checks.thrown("25 no report", Checks.OUT_OF_BOUNDS, () -> hall.wasReversed(2));
        Checks.thrown("25 below", Checks.OUT_OF_BOUNDS, () -> hall.wasReversed(-1));
    }

    private static void wasReversedToGuilty() {
        PrecedentHall hall = court();
        int report = fileAndDecide(hall, 1, false);
        hall.appeal(report);
        hall.vote(report, 2, true);
        Checks.due("20 guilty on appeal", hall.decide(report), 'g');
        Checks.due("25 reversed to guilty", hall.wasReversed(report), true);
        Checks.due("9 sanctioned by the new decision", hall.sanctions(1), 1);
    }
}
