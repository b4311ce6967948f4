/** The boundary cases of promises 7 to 12: people and bots. */
public final class PeopleEdgesTest {
    private PeopleEdgesTest() {
    }

    public static void main(String[] args) {
        addUserWeight();
        addUserFull();
        setWeightNumbers();
        setWeightOfVotes();
        sanctionsNoUser();
        sanctionsFirstAndLastDay();
        sanctionsMost();
        sanctionsOnAppeal();
        sanctionsAnew();
        sanctionedUntilNumbers();
        sanctionedUntilDays();
        sanctionedUntilLate();
        addBotNumbers();
        addBotKinds();
        addBotFull();
        thresholdNoBot();
        thresholdUp();
        thresholdDown();
        thresholdOfOthers();
        Checks.finish();
    }

    /** Users 0 to 3 of weight 5; kind 0 forbidden for so many days; day 1. */
    private static PrecedentHall court(int days) {
        PrecedentHall hall = Courts.withUsers(4);
        hall.addRule(0, true, 1, days, 1);
        hall.pass(1);
        return hall;
    }

    private static PrecedentHall sentenced(int days) {
        PrecedentHall hall = court(days);
        Courts.decided(hall, 1, true);
        return hall;
    }

    private static PrecedentHall eightUsers() {
        return Courts.withUsers(8);
    }

    // ---- promise 7

    private static void addUserWeight() {
        Edge.range("7 weight", Courts::empty, 1, 9, PrecedentHall::addUser);
        Edge.range("7 weight of the eighth", () -> Courts.withUsers(7), 1, 9,
                PrecedentHall::addUser);
        for (int weight : new int[] {1, 9}) {
            PrecedentHall hall = Courts.withUsers(2);
            hall.addUser(weight);
            hall.file(0, 1, 1, 0);
            Checks.due("7 the weight that is told counts", hall.vote(0, 2, true), weight);
        }
    }

    private static void addUserFull() {
        PrecedentHall hall = new PrecedentHall();
        for (int number = 0; number < 8; number++) {
            Checks.due("7 number", hall.addUser(1), number);
        }
        Edge.refused("7 ninth", Checks.ILLEGAL_STATE, PeopleEdgesTest::eightUsers,
                full -> full.addUser(1));
        Edge.refused("7 ninth, weight 0", Checks.ILLEGAL_ARGUMENT, PeopleEdgesTest::eightUsers,
                full -> full.addUser(0));
        Edge.refused("7 ninth, weight 10", Checks.ILLEGAL_ARGUMENT, PeopleEdgesTest::eightUsers,
                full -> full.addUser(10));
        Edge.answers("7 a refused one takes no number", 1, () -> Courts.withUsers(1), one -> {
            Checks.result(() -> one.addUser(0));
            return one.addUser(1);
        });
    }

    // ---- promise 8

    private static void setWeightNumbers() {
        Edge.index("8 user of one", () -> Courts.withUsers(1), 1,
                (hall, user) -> hall.setWeight(user, 1));
        Edge.index("8 user of eight", Courts::full, 8, (hall, user) -> hall.setWeight(user, 1));
        Edge.range("8 weight", Courts::busy, 1, 9, (hall, weight) -> hall.setWeight(0, weight));
        Edge.refused("8 no user, and no such weight", Checks.OUT_OF_BOUNDS, Courts::busy,
                hall -> hall.setWeight(4, 0));
        Edge.answers("8 a refused weight is none", 5, Courts::busy, hall -> {
            Checks.result(() -> hall.setWeight(0, 10));
            return hall.setWeight(0, 1);
        });
        PrecedentHall hall = Courts.withUsers(1);
        Checks.due("8 the one of addUser", hall.setWeight(0, 9), 5);
        Checks.due("8 the greatest was told", hall.setWeight(0, 1), 9);
        Checks.due("8 the least was told", hall.setWeight(0, 1), 1);
    }

    private static void setWeightOfVotes() {
        PrecedentHall hall = Courts.small();
        hall.file(0, 1, 1, 0);
        hall.vote(0, 2, true);
        hall.vote(0, 3, false);
        hall.setWeight(2, 9);
        hall.setWeight(3, 1);
        Checks.due("8 the vote for it keeps its weight", hall.weightFor(0), 5);
        Checks.due("8 the vote against it keeps its weight", hall.weightAgainst(0), 5);
        Checks.due("8 as much on both sides still", hall.decide(0), 'i');
        hall.appeal(0);
        Checks.due("8 the vote keeps it on appeal", hall.weightFor(0), 5);
        Checks.due("8 a new vote has the new one", hall.vote(0, 2, true), 14);
    }

    // ---- promise 9

    private static void sanctionsNoUser() {
        Edge.index("9 user of one", () -> Courts.withUsers(1), 1, PrecedentHall::sanctions);
        Edge.index("9 user of four", Courts::busy, 4, PrecedentHall::sanctions);
        Edge.index("9 user of eight", Courts::full, 8, PrecedentHall::sanctions);
    }

    private static void sanctionsFirstAndLastDay() {
        for (int days : new int[] {1, 2, 60}) {
            PrecedentHall hall = court(days);
            Checks.due("9 ahead of the decision", hall.sanctions(1), 0);
            Courts.decided(hall, 1, true);
            Checks.due("9 on the day of the decision", hall.sanctions(1), 1);
            Courts.passTo(hall, days);
            Checks.due("9 on the last of days " + days, hall.sanctions(1), 1);
            hall.pass(1);
            Checks.due("9 the day after days " + days, hall.sanctions(1), 0);
        }
    }

    private static void sanctionsMost() {
        PrecedentHall hall = court(60);
        for (int report = 0; report < 20; report++) {
            Courts.decided(hall, 1, true);
        }
        Checks.due("9 of twenty reports", hall.sanctions(1), 20);
        for (int report = 0; report < 20; report++) {
            Courts.decidedAnew(hall, report, true);
        }
        Checks.due("9 of twenty reports decided anew", hall.sanctions(1), 20);
        hall.pass(59);
        Checks.due("9 twenty on their last day", hall.sanctions(1), 20);
        hall.pass(1);
        Checks.due("9 twenty have lapsed", hall.sanctions(1), 0);
        Checks.due("9 those that ended count on no day", hall.sanctionDays(), 1200L);
    }

    private static void sanctionsOnAppeal() {
        PrecedentHall same = sentenced(3);
        same.appeal(0);
        Checks.due("9 ended on its first day", same.sanctions(1), 0);
        PrecedentHall last = sentenced(3);
        last.pass(2);
        last.appeal(0);
        Checks.due("9 ended on its last day", last.sanctions(1), 0);
        Checks.due("9 what ended does not lapse", last.pass(1), 0);
        PrecedentHall late = sentenced(3);
        late.pass(3);
        late.appeal(0);
        Checks.due("9 an appeal after the last day", late.sanctions(1), 0);
        Checks.due("9 all its days have counted", late.sanctionDays(), 3L);
        PrecedentHall two = sentenced(3);
        Courts.decided(two, 1, true);
        two.appeal(0);
        Checks.due("9 that of another report stays", two.sanctions(1), 1);
    }

    private static void sanctionsAnew() {
        PrecedentHall guilty = sentenced(3);
        guilty.pass(2);
        Courts.decidedAnew(guilty, 0, true);
        guilty.pass(2);
        Checks.due("9 the new one, on its last day", guilty.sanctions(1), 1);
        guilty.pass(1);
        Checks.due("9 the new one, a day later", guilty.sanctions(1), 0);
        PrecedentHall innocent = sentenced(3);
        Courts.decidedAnew(innocent, 0, false);
        Checks.due("9 no new one if not 'g' again", innocent.sanctions(1), 0);
        PrecedentHall first = court(3);
        Courts.decided(first, 1, false);
        Courts.decidedAnew(first, 0, true);
        Checks.due("9 one if 'g' for the first time", first.sanctions(1), 1);
    }

    // ---- promise 10

    private static void sanctionedUntilNumbers() {
        Edge.index("10 user of one", () -> Courts.withUsers(1), 1,
                PrecedentHall::sanctionedUntil);
        Edge.index("10 user of eight", Courts::full, 8, PrecedentHall::sanctionedUntil);
        Edge.refused("10 never sanctioned", Checks.NO_ELEMENT, Courts::busy,
                hall -> hall.sanctionedUntil(0));
        Edge.refused("10 ended on appeal", Checks.NO_ELEMENT, () -> {
            PrecedentHall hall = sentenced(3);
            hall.appeal(0);
            return hall;
        }, hall -> hall.sanctionedUntil(1));
        Edge.refused("10 lapsed", Checks.NO_ELEMENT, () -> {
            PrecedentHall hall = sentenced(3);
            hall.pass(3);
            return hall;
        }, hall -> hall.sanctionedUntil(1));
    }

    private static void sanctionedUntilDays() {
        for (int days : new int[] {1, 2, 60}) {
            PrecedentHall hall = sentenced(days);
            Checks.due("10 first day", hall.sanctionedUntil(1), 1 + days);
            Courts.passTo(hall, days);
            Checks.due("10 last day", hall.sanctionedUntil(1), 1 + days);
            hall.pass(1);
            Checks.thrown("10 the day it tells", Checks.NO_ELEMENT,
                    () -> hall.sanctionedUntil(1));
        }
        PrecedentHall several = Courts.withUsers(4);
        several.addRule(0, true, 1, 5, 1);
        several.addRule(1, true, 1, 2, 1);
        several.pass(1);
        Courts.decided(several, 2, true);
        Courts.decided(several, 1, true);
        Courts.decided(several, 2, true);
        Checks.due("10 the longest of several", several.sanctionedUntil(1), 6);
        several.appeal(1);
        Checks.due("10 without the longest", several.sanctionedUntil(1), 3);
        several.file(0, 3, 1, 0);
        several.vote(3, 2, true);
        several.decide(3);
        Checks.due("10 without the longer one of another", several.sanctionedUntil(1), 3);
        Checks.due("10 the one of the other", several.sanctionedUntil(3), 6);
    }

    private static void sanctionedUntilLate() {
        for (int days : new int[] {1, 60}) {
            PrecedentHall hall = court(days);
            Courts.passTo(hall, 1000);
            Courts.decided(hall, 1, true);
            Checks.due("10 later than day 1000", hall.sanctionedUntil(1), 1000 + days);
        }
        PrecedentHall last = court(60);
        Courts.passTo(last, 940);
        Courts.decided(last, 1, true);
        Checks.due("10 day 1000 itself", last.sanctionedUntil(1), 1000);
    }

    // ---- promise 11

    private static PrecedentHall fourBots() {
        PrecedentHall hall = new PrecedentHall();
        for (int i = 0; i < 4; i++) {
            hall.addBot(i, 50 + i);
        }
        return hall;
    }

    private static void addBotNumbers() {
        Edge.range("11 kind", Courts::empty, 0, 7, (hall, kind) -> hall.addBot(kind, 50));
        Edge.range("11 threshold", Courts::empty, 50, 100,
                (hall, threshold) -> hall.addBot(0, threshold));
        for (int threshold : new int[] {50, 100}) {
            PrecedentHall hall = court(1);
            hall.addBot(0, threshold);
            Checks.due("11 the threshold that is told", hall.threshold(0), threshold);
            hall.file(0, 1, 1, threshold - 1);
            hall.file(0, 1, 1, threshold);
            Checks.due("11 an evidence less than it", hall.state(0), 'o');
            Checks.due("11 an evidence as great as it", hall.state(1), 'd');
        }
    }

    /** A bot of each kind, the greatest and the least included, decides about this kind alone. */
    private static void addBotKinds() {
        for (int kind = 0; kind < 8; kind++) {
            PrecedentHall hall = Courts.withUsers(2);
            hall.addBot(kind, 50);
            hall.file(0, 1, 1 << kind, 100);
            hall.file(0, 1, 255 - (1 << kind), 100);
            Checks.due("11 about kind " + kind, hall.state(0), 'd');
            Checks.due("11 not about others than kind " + kind, hall.state(1), 'o');
        }
    }

    private static void addBotFull() {
        PrecedentHall hall = new PrecedentHall();
        for (int number = 0; number < 4; number++) {
            Checks.due("11 number", hall.addBot(0, 50), number);
        }
        Edge.Court court = PeopleEdgesTest::fourBots;
        Edge.refused("11 fifth", Checks.ILLEGAL_STATE, court, full -> full.addBot(0, 50));
        Edge.refused("11 fifth, kind", Checks.ILLEGAL_ARGUMENT, court,
                full -> full.addBot(8, 50));
        Edge.refused("11 fifth, threshold", Checks.ILLEGAL_ARGUMENT, court,
                full -> full.addBot(0, 101));
        Edge.answers("11 a refused one takes no number", 0, Courts::empty, none -> {
            Checks.result(() -> none.addBot(0, 49));
            return none.addBot(0, 50);
        });
    }

    // ---- promise 12

    private static void thresholdNoBot() {
        Edge.index("12 bot of one", Courts::busy, 1, PrecedentHall::threshold);
        Edge.index("12 bot of four", PeopleEdgesTest::fourBots, 4, PrecedentHall::threshold);
        Checks.due("12 of the first", fourBots().threshold(0), 50);
        Checks.due("12 of the last", fourBots().threshold(3), 53);
    }

    /** The threshold of a bot of kind 0, after its 'g' was upheld on appeal, or was not. */
    private static int thresholdAfter(int threshold, boolean isGuilty) {
        PrecedentHall hall = court(3);
        hall.addBot(0, threshold);
        hall.file(0, 1, 1, 100);
        Courts.decidedAnew(hall, 0, isGuilty);
        return hall.threshold(0);
    }

    private static void thresholdUp() {
        int[][] due = {{50, 55}, {94, 99}, {95, 100}, {96, 100}, {99, 100}, {100, 100}};
        for (int[] row : due) {
            Checks.due("12 increases from " + row[0], thresholdAfter(row[0], false), row[1]);
        }
        PrecedentHall hall = court(3);
        hall.addBot(0, 60);
        hall.file(0, 1, 1, 60);
        Courts.decidedAnew(hall, 0, false);
        hall.file(0, 1, 1, 64);
        hall.file(0, 1, 1, 65);
        Checks.due("12 an evidence less than the new one", hall.state(1), 'o');
        Checks.due("12 an evidence as great as the new one", hall.state(2), 'd');
    }

    private static void thresholdDown() {
        int[][] due = {{50, 50}, {51, 50}, {52, 51}, {100, 99}};
        for (int[] row : due) {
            Checks.due("12 decreases from " + row[0], thresholdAfter(row[0], true), row[1]);
        }
        PrecedentHall hall = court(3);
        hall.addBot(0, 60);
        hall.file(0, 1, 1, 60);
        Courts.decidedAnew(hall, 0, true);
        hall.file(0, 1, 1, 58);
        hall.file(0, 1, 1, 59);
        Checks.due("12 an evidence less than the lower one", hall.state(1), 'o');
        Checks.due("12 an evidence as great as the lower one", hall.state(2), 'd');
    }

    /** A bot learns only from an appeal against an own decision with the outcome 'g'. */
    private static void thresholdOfOthers() {
        PrecedentHall hall = Courts.small();
        Courts.decided(hall, 3, false);
        hall.addBot(0, 50);
        hall.addBot(2, 50);
        hall.addBot(7, 50);
        int innocent = hall.file(0, 1, 3, 59);
        Checks.due("12 the bot found 'i'", hall.outcome(innocent), 'i');
        hall.setWeight(2, 9);
        Courts.decidedAnew(hall, innocent, true);
        Checks.due("12 'g' on appeal", hall.outcome(innocent), 'g');
        Checks.due("12 'i' then 'g' teaches nothing", hall.threshold(0), 50);
        int allowed = hall.file(0, 1, 4, 60);
        Courts.decidedAnew(hall, allowed, true);
        Checks.due("12 'w' teaches nothing", hall.threshold(1), 50);
        int lawless = hall.file(0, 1, 128, 60);
        Courts.decidedAnew(hall, lawless, true);
        Checks.due("12 'n' teaches nothing", hall.threshold(2), 50);
        PrecedentHall twice = Courts.small();
        Courts.decided(twice, 3, false);
        twice.addBot(0, 55);
        int upheld = twice.file(0, 1, 3, 59);
        Courts.decidedAnew(twice, upheld, false);
        Checks.due("12 'i' and 'i' teaches nothing", twice.threshold(0), 55);
        int open = twice.file(0, 1, 1, 54);
        twice.vote(open, 2, true);
        twice.decide(open);
        Courts.decidedAnew(twice, open, false);
        Checks.due("12 a decision by votes teaches nothing", twice.threshold(0), 55);
    }
}
