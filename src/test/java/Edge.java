/**
 * The edges of what a call takes. Each call is tried on a court that is made for it alone, as an
 * object is used for at most 512 calls.
 */
final class Edge {
    private static final int LEAST = Integer.MIN_VALUE;
    private static final int MOST = Integer.MAX_VALUE;

    interface Court {
        PrecedentHall make();
    }

    interface Call {
        Object on(PrecedentHall hall);
    }

    interface NumberCall {
        Object on(PrecedentHall hall, int number);
    }

    private Edge() {
    }

    /** The call answers so on a court of its own. */
    static void answers(String what, Object want, Court court, Call call) {
        PrecedentHall hall = court.make();
        Checks.due(what, Checks.result(() -> call.on(hall)), want);
    }

    /** The call throws, and what other calls answer is the same after it as ahead of it. */
    static void refused(String what, Class<? extends RuntimeException> want, Court court,
            Call call) {
        answers(what, want, court, call);
        Checks.due(what + ", what is told after it", Checks.snapshot(afterCall(court, call)),
                Checks.snapshot(court.make()));
        Checks.due(what + ", what is done after it", goOn(afterCall(court, call)),
                goOn(court.make()));
    }

    private static PrecedentHall afterCall(Court court, Call call) {
        PrecedentHall hall = court.make();
        Checks.result(() -> call.on(hall));
        return hall;
    }

    /** The numbers from least to greatest are taken, and none below or above. */
    static void range(String what, Court court, int least, int greatest, NumberCall call) {
        for (int number : new int[] {least, greatest}) {
            PrecedentHall hall = court.make();
            Object got = Checks.result(() -> call.on(hall, number));
            Checks.due(what + " " + number + " is refused", got instanceof Class, false);
        }
        outside(what, Checks.ILLEGAL_ARGUMENT, court, least, greatest, call);
    }

    /** No number is taken, neither below the bound, nor the bound itself, nor above it. */
    static void noNumber(String what, Court court, int bound, NumberCall call) {
        outside(what, Checks.ILLEGAL_ARGUMENT, court, bound, bound - 1, call);
    }

    /** There are as many as the size tells, numbered from 0. */
    static void index(String what, Court court, int size, NumberCall call) {
        for (int number = 0; number < size; number += Math.max(size - 1, 1)) {
            int known = number;
            PrecedentHall hall = court.make();
            Object got = Checks.result(() -> call.on(hall, known));
            Checks.due(what + " " + known + " is unknown", got == Checks.OUT_OF_BOUNDS, false);
        }
        outside(what, Checks.OUT_OF_BOUNDS, court, 0, size - 1, call);
    }

    private static void outside(String what, Class<? extends RuntimeException> want, Court court,
            int least, int greatest, NumberCall call) {
        for (int number : new int[] {LEAST, least - 1, greatest + 1, MOST}) {
            refused(what + " " + number, want, court, hall -> call.on(hall, number));
        }
    }

    /** The answers of a row of calls that change the court, in some hundred and twenty calls. */
    private static String goOn(PrecedentHall hall) {
        StringBuilder all = new StringBuilder();
        add(all, () -> hall.addUser(9));
        add(all, () -> hall.addBot(0, 50));
        add(all, () -> hall.addRule(0, true, 9, 60, hall.today() + 1));
        for (int i = 0; i < 12; i++) {
            int rule = i;
            add(all, () -> hall.repeal(rule, 1000));
        }
        add(all, () -> hall.file(0, 1, 255, 49));
        add(all, () -> hall.file(1, 0, 255, 100));
        for (int i = 0; i < 20; i++) {
            int report = i;
            add(all, () -> hall.vote(report, 2, true));
            add(all, () -> hall.vote(report, 3, false));
            add(all, () -> hall.appeal(report));
            add(all, () -> hall.decide(report));
        }
        add(all, () -> hall.pass(1));
        add(all, () -> hall.pass(59));
        add(all, hall::sanctionDays);
        add(all, hall::decisions);
        add(all, hall::reversedShare);
        for (int i = 0; i < 8; i++) {
            int user = i;
            add(all, () -> hall.sanctionedUntil(user));
        }
        return all.toString();
    }

    private static void add(StringBuilder all, Checks.Call call) {
        all.append(Checks.result(call)).append(' ');
    }
}
