import java.util.Objects;

/** What the tests share: they tell each answer that is not the one that is due. */
final class Checks {
    static final Class<? extends RuntimeException> OUT_OF_BOUNDS = IndexOutOfBoundsException.class;
    static final Class<? extends RuntimeException> ILLEGAL_ARGUMENT = IllegalArgumentException.class;
    static final Class<? extends RuntimeException> ILLEGAL_STATE = IllegalStateException.class;
    static final Class<? extends RuntimeException> UNSUPPORTED = UnsupportedOperationException.class;
    static final Class<? extends RuntimeException> NO_ELEMENT = java.util.NoSuchElementException.class;
    static final Class<? extends RuntimeException> ARITHMETIC = ArithmeticException.class;

    private static int wrong;

    interface Call {
        Object answer();
    }

    private Checks() {
    }

    static void due(String what, Object got, Object want) {
        if (!Objects.equals(got, want)) {
            wrong++;
            System.out.println(what + ": answered " + got + ", due is " + want);
        }
    }

    static void thrown(String what, Class<? extends RuntimeException> want, Call call) {
        due(what, result(call), want);
    }

    /** The answer of a call, or the class of the exception that it throws. */
    static Object result(Call call) {
        try {
            return call.answer();
        } catch (RuntimeException e) {
            return isByMachine(e) ? "the machine's own " + e.getClass() : e.getClass();
        }
    }

    // What no throw statement threw: a list's or an array's, a division's, or that of a null.
    private static boolean isByMachine(RuntimeException e) {
        StackTraceElement[] trace = e.getStackTrace();
        boolean isInLibrary = trace.length > 0 && trace[0].getClassName().matches("(java|jdk)\\..*");
        return isInLibrary || "/ by zero".equals(e.getMessage());
    }

    /** All that can be asked of the object, in less than four hundred calls. */
    static String snapshot(PrecedentHall hall) {
        StringBuilder all = new StringBuilder();
        add(all, hall.today());
        add(all, hall.decisions());
        add(all, hall.sanctionDays());
        add(all, hall.isConsistent());
        add(all, result(hall::meanEvidence));
        add(all, result(hall::reversedShare));
        for (char kind : "ogbr".toCharArray()) {
            add(all, hall.count(kind));
        }
        addRules(hall, all);
        addPeopleAndBots(hall, all);
        addReports(hall, all);
        return all.toString();
    }

    private static void add(StringBuilder all, Object answer) {
        all.append(answer).append(' ');
    }

    private static void addRules(PrecedentHall hall, StringBuilder all) {
        int[] days = {1, 2, 5, 7, 8, Math.min(hall.today() + 1, 1000), 1000};
        for (int day : days) {
            add(all, hall.conflicts(day));
        }
        for (int i = 0; isKnown(ask(hall, "rule", i)); i++) {
            all.append("\nrule ");
            for (int day : days) {
                add(all, hall.isInForce(i, day));
            }
        }
    }

    private static void addPeopleAndBots(PrecedentHall hall, StringBuilder all) {
        for (int i = 0; isKnown(ask(hall, "user", i)); i++) {
            int user = i;
            int weight = hall.setWeight(user, 1);
            hall.setWeight(user, weight);
            all.append("\nuser ");
            add(all, weight);
            add(all, hall.sanctions(user));
            add(all, result(() -> hall.sanctionedUntil(user)));
        }
        for (int i = 0; isKnown(ask(hall, "bot", i)); i++) {
            all.append("\nbot ");
            add(all, hall.threshold(i));
        }
        int quorum = hall.setQuorum(1);
        hall.setQuorum(quorum);
        all.append("\nquorum ").append(quorum);
    }

    private static void addReports(PrecedentHall hall, StringBuilder all) {
        for (int i = 0; isKnown(ask(hall, "report", i)); i++) {
            int report = i;
            all.append("\nreport ");
            add(all, ask(hall, "report", report));
            add(all, hall.weightFor(report));
            add(all, hall.weightAgainst(report));
            add(all, hall.wasReversed(report));
            add(all, result(() -> hall.applying(report)));
            add(all, result(() -> hall.precedent(report)));
            add(all, result(() -> hall.outcome(report)));
            add(all, result(() -> hall.outcomeAnew(report)));
            add(all, result(() -> hall.isByBot(report)));
            add(all, hall.likeness(report, 0));
        }
    }

    private static Object ask(PrecedentHall hall, String what, int number) {
        switch (what) {
            case "rule": return result(() -> hall.isInForce(number, 0));
            case "user": return result(() -> hall.sanctions(number));
            case "bot": return result(() -> hall.threshold(number));
            default: return result(() -> hall.state(number));
        }
    }

    private static boolean isKnown(Object answer) {
        return answer != OUT_OF_BOUNDS;
    }

    static void finish() {
        if (wrong != 0) {
            System.out.println(wrong + " answers are not as due");
            System.exit(1);
        }
    }
}
