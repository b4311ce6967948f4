/** Promises 7 to 12: people and bots. */
public final class PeopleTest {
    private static final int LEAST = Integer.MIN_VALUE;
    private static final int MOST = Integer.MAX_VALUE;

    private PeopleTest() {
    }

    public static void main(String[] args) {
        addUser();
        setWeight();
        sanctions();
        sanctionsEndOnAppeal();
        sanctionedUntil();
        addBot();
        threshold();
        thresholdBounds();
        Checks.finish();
    }

    /** Users 0 to 3 of weight 5; the rules 0 (kind 0, 3 days) and 1 (kind 1, 60 days). */
    private static PrecedentHall court() {
        PrecedentHall hall = new PrecedentHall();
        for (int i = 0; i < 4; i++) {
            hall.addUser(5);
        }
        hall.addRule(0, true, 1, 3, 1);
        hall.addRule(1, true, 1, 60, 1);
        hall.pass(1);
        return hall;
    }

    private static int fileAndDecide(PrecedentHall hall, int facts, boolean isGuilty) {
        int report = hall.file(0, 1, facts, 0);
        hall.vote(report, 2, isGuilty);
        hall.decide(report);
        return report;
    }

    private static void addUser() {
        PrecedentHall hall = new PrecedentHall();
        Checks.due("7 least weight", hall.addUser(1), 0);
        Checks.due("7 greatest weight", hall.addUser(9), 1);
        for (int weight : new int[] {0, 10, -1, LEAST, MOST}) {
            Checks.thrown("7 weight", Checks.ILLEGAL_ARGUMENT, () -> hall.addUser(weight));
        }
        for (int number = 2; number < 8; number++) {
            Checks.due("7 number", hall.addUser(4), number);
        }
        Checks.thrown("7 ninth", Checks.ILLEGAL_STATE, () -> hall.addUser(4));
        Checks.thrown("7 ninth, out of range too", Checks.ILLEGAL_ARGUMENT,
                () -> hall.addUser(10));
        Checks.due("7 the eighth user can be reported", hall.file(0, 7, 1, 0), 0);
        Checks.due("7 the weight counts", hall.vote(0, 1, true), 9);
    }

    private static void setWeight() {
        PrecedentHall hall = court();
        int report = hall.file(0, 1, 1, 0);
        hall.vote(report, 2, true);
        Checks.due("8 previous weight", hall.setWeight(2, 9), 5);
        Checks.due("8 the vote keeps its weight", hall.weightFor(report), 5);
        Checks.due("8 other votes", hall.vote(report, 3, false), 10);
        Checks.due("8 a new vote has the new one", hall.vote(report, 2, true), 14);
        Checks.due("8 previous weight again", hall.setWeight(2, 1), 9);
        Checks.due("8 the others keep theirs", hall.setWeight(3, 1), 5);
        Checks.thrown("8 no user", Checks.OUT_OF_BOUNDS, () -> hall.setWeight(4, 1));
        Checks.thrown("8 below", Checks.OUT_OF_BOUNDS, () -> hall.setWeight(-1, 0));
        for (int weight : new int[] {0, 10, LEAST, MOST}) {
            Checks.thrown("8 weight", Checks.ILLEGAL_ARGUMENT,
                    () -> hall.setWeight(2, weight));
        }
    }

    private static void sanctions() {
        PrecedentHall hall = court();
        Checks.due("9 none", hall.sanctions(1), 0);
        fileAndDecide(hall, 1, false);
        Checks.due("9 innocent", hall.sanctions(1), 0);
        fileAndDecide(hall, 1, true);
        Checks.due("9 from the day of the decision on", hall.sanctions(1), 1);
        hall.pass(1);
        fileAndDecide(hall, 2, true);
        fileAndDecide(hall, 1, true);
        Checks.due("9 several", hall.sanctions(1), 3);
        Checks.due("9 the reporter has none", hall.sanctions(0), 0);
        hall.pass(1);
        Checks.due("9 the last day of the first", hall.sanctions(1), 3);
        hall.pass(1);
        Checks.due("9 the first has lapsed", hall.sanctions(1), 2);
        hall.pass(1);
        Checks.due("9 the third has lapsed", hall.sanctions(1), 1);
        hall.pass(56);
        Checks.due("9 the last of 60 days", hall.sanctions(1), 1);
        hall.pass(1);
        Checks.due("9 all have lapsed", hall.sanctions(1), 0);
        Checks.thrown("9 no user", Checks.OUT_OF_BOUNDS, () -> hall.sanctions(4));
        Checks.thrown("9 below", Checks.OUT_OF_BOUNDS, () -> hall.sanctions(-1));
    }

    private static void sanctionsEndOnAppeal() {
        PrecedentHall hall = court();
        int report = fileAndDecide(hall, 2, true);
        hall.pass(2);
        hall.appeal(report);
        Checks.due("9 ends at once on appeal", hall.sanctions(1), 0);
        Checks.thrown("10 ends at once on appeal", Checks.NO_ELEMENT,
                () -> hall.sanctionedUntil(1));
        hall.pass(3);
        hall.decide(report);
        Checks.due("9 a new one with the new decision", hall.sanctions(1), 1);
        Checks.due("10 it begins with that day", hall.sanctionedUntil(1), 66);
    }

    private static void sanctionedUntil() {
        PrecedentHall hall = court();
        Checks.thrown("10 not sanctioned", Checks.NO_ELEMENT,
                () -> hall.sanctionedUntil(1));
        Checks.thrown("10 no user", Checks.OUT_OF_BOUNDS, () -> hall.sanctionedUntil(4));
        Checks.thrown("10 below", Checks.OUT_OF_BOUNDS, () -> hall.sanctionedUntil(-1));
        fileAndDecide(hall, 1, true);
        Checks.due("10 three days from day 1 on", hall.sanctionedUntil(1), 4);
        hall.pass(1);
        int longer = fileAndDecide(hall, 2, true);
        fileAndDecide(hall, 1, true);
        Checks.due("10 the latest of several", hall.sanctionedUntil(1), 62);
        hall.appeal(longer);
        Checks.due("10 without the one that ended", hall.sanctionedUntil(1), 5);
        hall.pass(2);
        Checks.due("10 on its last day", hall.sanctionedUntil(1), 5);
        hall.pass(1);
        Checks.thrown("10 lapsed", Checks.NO_ELEMENT, () -> hall.sanctionedUntil(1));
        for (int i = 0; i < 9; i++) {
            hall.pass(100);
        }
        hall.pass(95);
        fileAndDecide(hall, 2, true);
        Checks.due("10 later than day 1000", hall.sanctionedUntil(1), 1060);
        int other = hall.file(1, 0, 1, 0);
        hall.vote(other, 2, true);
        hall.decide(other);
        Checks.due("10 without those of others", hall.sanctionedUntil(0), 1003);
        Checks.due("9 without those of others", hall.sanctions(0), 1);
    }

    private static void addBot() {
        PrecedentHall hall = new PrecedentHall();
        int[][] wrong = {{-1, 60}, {8, 60}, {LEAST, 60}, {MOST, 60},
            {0, 49}, {0, 101}, {0, LEAST}, {0, MOST}};
        for (int[] row : wrong) {
            Checks.thrown("11 out of range", Checks.ILLEGAL_ARGUMENT,
                    () -> hall.addBot(row[0], row[1]));
        }
        Checks.due("11 least numbers", hall.addBot(0, 50), 0);
        Checks.due("11 greatest numbers", hall.addBot(7, 100), 1);
        Checks.due("11 the same kind again", hall.addBot(7, 100), 2);
        Checks.due("11 fourth", hall.addBot(3, 77), 3);
        Checks.thrown("11 fifth", Checks.ILLEGAL_STATE, () -> hall.addBot(3, 77));
        Checks.thrown("11 fifth, out of range too", Checks.ILLEGAL_ARGUMENT,
                () -> hall.addBot(3, 49));
    }

    private static void threshold() {
        PrecedentHall hall = court();
        hall.addBot(0, 60);
        hall.addBot(1, 80);
        Checks.due("12 first bot", hall.threshold(0), 60);
        Checks.due("12 second bot", hall.threshold(1), 80);
        Checks.thrown("12 no bot", Checks.OUT_OF_BOUNDS, () -> hall.threshold(2));
        Checks.thrown("12 below", Checks.OUT_OF_BOUNDS, () -> hall.threshold(-1));
        int upheld = hall.file(0, 1, 2, 80);
        hall.appeal(upheld);
        Checks.due("12 the appeal alone changes nothing", hall.threshold(1), 80);
        hall.vote(upheld, 2, true);
        hall.decide(upheld);
        Checks.due("12 decreases when upheld", hall.threshold(1), 79);
        int reversed = hall.file(0, 1, 1, 60);
        hall.appeal(reversed);
        hall.vote(reversed, 2, false);
        hall.decide(reversed);
        Checks.due("12 increases when reversed", hall.threshold(0), 65);
        Checks.due("12 the other bot stays", hall.threshold(1), 79);
        int byVotes = fileAndDecide(hall, 1, true);
        hall.appeal(byVotes);
        hall.vote(byVotes, 2, false);
        hall.decide(byVotes);
        Checks.due("12 a decision by votes teaches no bot", hall.threshold(0), 65);
    }

    private static void thresholdBounds() {
        PrecedentHall hall = court();
        hall.addBot(0, 98);
        hall.addBot(1, 50);
        int reversed = hall.file(0, 1, 1, 98);
        hall.appeal(reversed);
        hall.vote(reversed, 2, false);
        hall.vote(reversed, 3, false);
        hall.decide(reversed);
        Checks.due("12 up to 100", hall.threshold(0), 100);
        int upheld = hall.file(0, 1, 2, 50);
        hall.appeal(upheld);
        hall.vote(upheld, 2, true);
        hall.decide(upheld);
        Checks.due("12 down to 50", hall.threshold(1), 50);
        PrecedentHall other = court();
        other.addBot(2, 60);
        int noRule = other.file(0, 1, 4, 60);
        other.appeal(noRule);
        other.vote(noRule, 2, true);
        Checks.due("12 no rule, again", other.decide(noRule), 'n');
        Checks.due("12 not 'g' before", other.threshold(0), 60);
    }
}
