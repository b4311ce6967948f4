/** Long runs of calls, made by a fixed row of numbers, beside the plain model of the document. */
public final class ModelTest {
    private static final int RUNS = 1000;
    private static final int CALLS = 512;
    private static final int[] ODD = {-1, 0, 1, 8, 1000, 1001, Integer.MIN_VALUE,
        Integer.MAX_VALUE};

    private long seed;
    private final PrecedentHall hall = new PrecedentHall();
    private final PlainHall plain = new PlainHall();
    private int users;
    private int reports;
    private String told = "";
    private Object got;
    private Object want;

    private ModelTest(long seed) {
        this.seed = seed * 7919 + 12345;
    }

    public static void main(String[] args) {
        int[] outcomes = new int[128];
        for (int run = 1; run <= RUNS; run++) {
            ModelTest test = new ModelTest(run);
            for (int call = 1; call <= CALLS; call++) {
                test.callBoth(call);
                Checks.due("run " + run + ", call " + call + ": " + test.told, test.got,
                        test.want);
                if (test.got instanceof Character) {
                    outcomes[(Character) test.got]++;
                }
            }
        }
        for (char outcome : "nwgiode".toCharArray()) {
            Checks.due("the runs reach " + outcome, outcomes[outcome] > RUNS, true);
        }
        Checks.finish();
    }

    private int number(int bound) {
        seed = seed * 6364136223846793005L + 1442695040888963407L;
        return (int) Math.floorMod(seed >>> 33, (long) bound);
    }

    /** A number from least to greatest, and now and then another one. */
    private int value(int least, int greatest) {
        switch (number(60)) {
            case 0: return ODD[number(ODD.length)];
            case 1: return least - 1;
            case 2: return greatest + 1;
            default: return least + number(greatest - least + 1);
        }
    }

    private int user() {
        return value(0, Math.max(users - 1, 0));
    }

    private int report() {
        return value(0, Math.max(reports - 1, 0));
    }

    private int aheadOfToday() {
        return hallDay() + value(1, number(4) == 0 ? 30 : 3);
    }

    private int hallDay() {
        return plain.today();
    }

    private void both(String call, Checks.Call onHall, Checks.Call onPlain) {
        told = call;
        got = Checks.result(onHall);
        want = Checks.result(onPlain);
    }

    private void callBoth(int call) {
        int share = number(100);
        if (call < 12 || share < 8) {
            build();
        } else if (share < 55) {
            act();
        } else {
            ask();
        }
    }

    private void build() {
        int a = value(0, 7);
        int b = value(0, 2);
        int c = value(1, 60);
        int d = aheadOfToday();
        int w = value(1, 9);
        int t = value(50, 100);
        boolean is = number(4) > 0;
        switch (number(5)) {
            case 0: case 1:
                both("addRule " + a + " " + is + " " + b + " " + c + " " + d,
                        () -> hall.addRule(a, is, b, c, d), () -> plain.addRule(a, is, b, c, d));
                break;
            case 2: case 3:
                both("addUser " + w, () -> hall.addUser(w), () -> plain.addUser(w));
                users += got instanceof Integer ? 1 : 0;
                break;
            default:
                both("addBot " + a + " " + t, () -> hall.addBot(a, t), () -> plain.addBot(a, t));
        }
    }

    private void act() {
        int r = report();
        int u = user();
        int v = user();
        boolean is = number(2) == 0;
        int day = aheadOfToday();
        int rule = value(0, 11);
        int w = value(1, 9);
        int q = value(1, number(3) == 0 ? 50 : 9);
        int days = value(1, number(9) == 0 ? 30 : 3);
        int facts = value(1, 255) & value(0, 255);
        int evidence = value(number(2) * 50, 100);
        switch (number(20)) {
            case 0: case 1: case 2:
                both("file " + u + " " + v + " " + facts + " " + evidence,
                        () -> hall.file(u, v, facts, evidence),
                        () -> plain.file(u, v, facts, evidence));
                reports += got instanceof Integer ? 1 : 0;
                break;
            case 3:
                both("repeal " + rule + " " + day, () -> hall.repeal(rule, day),
                        () -> plain.repeal(rule, day));
                break;
            case 4:
                both("setWeight " + u + " " + w, () -> hall.setWeight(u, w),
                        () -> plain.setWeight(u, w));
                break;
            case 5:
                both("setQuorum " + q, () -> hall.setQuorum(q), () -> plain.setQuorum(q));
                break;
            case 6: case 7:
                both("appeal " + r, () -> hall.appeal(r), () -> plain.appeal(r));
                break;
            case 8:
                both("pass " + days, () -> hall.pass(days), () -> plain.pass(days));
                break;
            case 9: case 10: case 11: case 12:
                both("decide " + r, () -> hall.decide(r), () -> plain.decide(r));
                break;
            default:
                both("vote " + r + " " + u + " " + is, () -> hall.vote(r, u, is),
                        () -> plain.vote(r, u, is));
        }
    }

    private void ask() {
        int r = report();
        switch (number(3)) {
            case 0: askOfReport(r); break;
            case 1: askOfOthers(r); break;
            default: askOfAll();
        }
    }

    private void askOfReport(int r) {
        switch (number(9)) {
            case 0: both("applying " + r, () -> hall.applying(r), () -> plain.applying(r)); break;
            case 1: both("state " + r, () -> hall.state(r), () -> plain.state(r)); break;
            case 2: both("weightFor " + r, () -> hall.weightFor(r), () -> plain.weightFor(r)); break;
            case 3: both("weightAgainst " + r, () -> hall.weightAgainst(r),
                    () -> plain.weightAgainst(r)); break;
            case 4: both("precedent " + r, () -> hall.precedent(r), () -> plain.precedent(r)); break;
            case 5: both("outcome " + r, () -> hall.outcome(r), () -> plain.outcome(r)); break;
            case 6: both("isByBot " + r, () -> hall.isByBot(r), () -> plain.isByBot(r)); break;
            case 7: both("wasReversed " + r, () -> hall.wasReversed(r),
                    () -> plain.wasReversed(r)); break;
            default: both("outcomeAnew " + r, () -> hall.outcomeAnew(r),
                    () -> plain.outcomeAnew(r));
        }
    }

    private void askOfOthers(int r) {
        int u = user();
        int bot = value(0, 3);
        int rule = value(0, 11);
        int other = report();
        int day = Math.max(0, hallDay() - 2) + value(0, 5);
        switch (number(6)) {
            case 0: both("sanctions " + u, () -> hall.sanctions(u), () -> plain.sanctions(u)); break;
            case 1: both("sanctionedUntil " + u, () -> hall.sanctionedUntil(u),
                    () -> plain.sanctionedUntil(u)); break;
            case 2: both("threshold " + bot, () -> hall.threshold(bot),
                    () -> plain.threshold(bot)); break;
            case 3: both("isInForce " + rule + " " + day, () -> hall.isInForce(rule, day),
                    () -> plain.isInForce(rule, day)); break;
            case 4: both("conflicts " + day, () -> hall.conflicts(day),
                    () -> plain.conflicts(day)); break;
            default: both("likeness " + r + " " + other, () -> hall.likeness(r, other),
                    () -> plain.likeness(r, other));
        }
    }

    private void askOfAll() {
        char kind = "ogbrx".charAt(number(5));
        switch (number(7)) {
            case 0: both("today", hall::today, plain::today); break;
            case 1: both("decisions", hall::decisions, plain::decisions); break;
            case 2: both("meanEvidence", hall::meanEvidence, plain::meanEvidence); break;
            case 3: both("reversedShare", hall::reversedShare, plain::reversedShare); break;
            case 4: both("sanctionDays", hall::sanctionDays, plain::sanctionDays); break;
            case 5: both("isConsistent", hall::isConsistent, plain::isConsistent); break;
            default: both("count " + kind, () -> hall.count(kind), () -> plain.count(kind));
        }
    }
}
