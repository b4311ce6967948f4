/** The boundary cases of promises 26 to 34: days and figures. */
public final class FiguresEdgesTest {
    private FiguresEdgesTest() {
    }

    public static void main(String[] args) {
        todayFirstAndLast();
        passNumbers();
        passLastDay();
        passOrder();
        passLapses();
        passLapsesLate();
        passLapsesEnded();
        decisionsNoneAndMost();
        likenessNumbers();
        likenessLeastAndMost();
        countKinds();
        countNoneAndAll();
        meanEvidenceNone();
        meanEvidenceEnds();
        meanEvidenceOfMany();
        reversedShareNone();
        reversedShareEnds();
        sanctionDaysFirst();
        sanctionDaysLast();
        sanctionDaysEnded();
        sanctionDaysLastOfAll();
        isConsistentAlways();
        Checks.finish();
    }

    /** Users 0 to 3 of weight 5; kind 0 forbidden for so many days; day 1. */
    private static PrecedentHall court(int days) {
        PrecedentHall hall = Courts.withUsers(4);
        hall.addRule(0, true, 1, days, 1);
        hall.pass(1);
        return hall;
    }

    private static PrecedentHall sentenced(int days) {
        PrecedentHall hall = court(days);
        Courts.decided(hall, 1, true);
        return hall;
    }

    // ---- promises 26 and 27

    private static void todayFirstAndLast() {
        Edge.answers("26 the first day", 0, Courts::empty, PrecedentHall::today);
        Edge.answers("26 the last day but one", 999, () -> Courts.onDay(999),
                PrecedentHall::today);
        Edge.answers("26 the last day", 1000, () -> Courts.onDay(1000), PrecedentHall::today);
    }

    private static void passNumbers() {
        Edge.range("27 days", Courts::busy, 1, 100, PrecedentHall::pass);
        Edge.range("27 days, on day 900,", () -> Courts.onDay(900), 1, 100, PrecedentHall::pass);
        for (int days : new int[] {1, 100}) {
            PrecedentHall hall = Courts.onDay(7);
            hall.pass(days);
            Checks.due("27 days " + days + " later", hall.today(), 7 + days);
        }
    }

    private static void passLastDay() {
        Edge.refused("27 100 days on day 901", Checks.ILLEGAL_STATE, () -> Courts.onDay(901),
                hall -> hall.pass(100));
        Edge.answers("27 99 days on day 901", 0, () -> Courts.onDay(901), hall -> hall.pass(99));
        Edge.refused("27 2 days on day 999", Checks.ILLEGAL_STATE, () -> Courts.onDay(999),
                hall -> hall.pass(2));
        Edge.answers("27 1 day on day 999", 0, () -> Courts.onDay(999), hall -> hall.pass(1));
        Edge.refused("27 1 day on day 1000", Checks.ILLEGAL_STATE, () -> Courts.onDay(1000),
                hall -> hall.pass(1));
        Edge.refused("27 100 days on day 1000", Checks.ILLEGAL_STATE, () -> Courts.onDay(1000),
                hall -> hall.pass(100));
    }

    private static void passOrder() {
        for (int days : new int[] {Integer.MIN_VALUE, -1, 0, 101, Integer.MAX_VALUE}) {
            Edge.refused("27 on day 1000, days " + days, Checks.ILLEGAL_ARGUMENT,
                    () -> Courts.onDay(1000), hall -> hall.pass(days));
        }
        Edge.refused("27 101 days on day 950", Checks.ILLEGAL_ARGUMENT,
                () -> Courts.onDay(950), hall -> hall.pass(101));
    }

    private static void passLapses() {
        for (int days : new int[] {1, 2, 60}) {
            PrecedentHall hall = sentenced(days);
            if (days > 1) {
                Checks.due("27 its last day comes", hall.pass(days - 1), 0);
            }
            Checks.due("27 its last day passes", hall.pass(1), 1);
            Checks.due("27 it lapses once", hall.pass(1), 0);
        }
        Edge.answers("27 the first day that it does not include", 1, () -> sentenced(60),
                hall -> hall.pass(60));
        Edge.answers("27 the day ahead of that", 0, () -> sentenced(60), hall -> hall.pass(59));
        Edge.answers("27 a later one", 1, () -> sentenced(60), hall -> hall.pass(61));
        Edge.answers("27 a far later one", 1, () -> sentenced(1), hall -> hall.pass(100));
        Edge.answers("27 none at all", 0, () -> court(1), hall -> hall.pass(100));
    }

    private static void passLapsesLate() {
        PrecedentHall many = court(2);
        for (int report = 0; report < 20; report++) {
            Courts.decided(many, 1, true);
        }
        Checks.due("27 none of twenty", many.pass(1), 0);
        Checks.due("27 all of twenty", many.pass(1), 20);
        PrecedentHall last = court(60);
        Courts.passTo(last, 940);
        Courts.decided(last, 1, true);
        last.pass(1);
        Courts.decided(last, 1, true);
        Checks.due("27 one on day 1000, one never", last.pass(59), 1);
        Checks.due("9 the one that never lapses", last.sanctions(1), 1);
    }

    private static void passLapsesEnded() {
        PrecedentHall hall = sentenced(3);
        hall.appeal(0);
        Checks.due("27 what ended does not lapse", hall.pass(3), 0);
        hall.decide(0);
        Checks.due("27 the new one, its last day comes", hall.pass(2), 0);
        Checks.due("27 the new one lapses", hall.pass(1), 1);
        PrecedentHall lapsed = sentenced(1);
        Checks.due("27 ahead of the appeal", lapsed.pass(1), 1);
        lapsed.appeal(0);
        Checks.due("27 not again after the appeal", lapsed.pass(1), 0);
    }

    // ---- promise 28

    private static void decisionsNoneAndMost() {
        Edge.answers("28 none", 0, () -> Courts.withUsers(3), PrecedentHall::decisions);
        Edge.answers("28 those of the full court", 21, Courts::full, PrecedentHall::decisions);
        PrecedentHall hall = court(1);
        hall.addBot(0, 100);
        for (int report = 0; report < 20; report++) {
            hall.file(0, 1, 1, 100);
        }
        Checks.due("28 twenty by a bot", hall.decisions(), 20);
        for (int report = 0; report < 20; report++) {
            Courts.decidedAnew(hall, report, true);
        }
        Checks.due("28 forty are the most", hall.decisions(), 40);
    }

    // ---- promise 29

    private static void likenessNumbers() {
        Edge.index("29 report of one", FiguresEdgesTest::oneReport, 1,
                (hall, report) -> hall.likeness(report, 0));
        Edge.index("29 other of one", FiguresEdgesTest::oneReport, 1,
                (hall, other) -> hall.likeness(0, other));
        Edge.index("29 report of twenty", Courts::full, 20,
                (hall, report) -> hall.likeness(report, 0));
        Edge.index("29 other of twenty", Courts::full, 20,
                (hall, other) -> hall.likeness(0, other));
        Edge.refused("29 neither", Checks.OUT_OF_BOUNDS, Courts::full,
                hall -> hall.likeness(-1, 20));
    }

    private static PrecedentHall oneReport() {
        PrecedentHall hall = Courts.small();
        hall.file(0, 1, 1, 0);
        return hall;
    }

    private static int likenessOf(int facts, int others) {
        PrecedentHall hall = Courts.withUsers(2);
        hall.file(0, 1, facts, 0);
        hall.file(1, 0, others, 0);
        Checks.due("29 either way", hall.likeness(1, 0), hall.likeness(0, 1));
        return hall.likeness(0, 1);
    }

    private static void likenessLeastAndMost() {
        Checks.due("29 none", likenessOf(1, 254), 0);
        Checks.due("29 none of few", likenessOf(1, 128), 0);
        Checks.due("29 kind 0", likenessOf(1, 255), 1);
        Checks.due("29 kind 7", likenessOf(128, 255), 1);
        Checks.due("29 seven", likenessOf(127, 255), 7);
        Checks.due("29 all", likenessOf(255, 255), 8);
        Checks.due("29 six of seven", likenessOf(127, 254), 6);
        PrecedentHall hall = oneReport();
        hall.file(0, 1, 255, 0);
        Checks.due("29 one to itself", hall.likeness(0, 0), 1);
        Checks.due("29 eight to itself", hall.likeness(1, 1), 8);
    }

    // ---- promise 30

    private static void countKinds() {
        StringBuilder known = new StringBuilder();
        for (int sign = 0; sign < 300; sign++) {
            char kind = (char) sign;
            PrecedentHall hall = Courts.busy();
            if (Checks.result(() -> hall.count(kind)) != Checks.ILLEGAL_ARGUMENT) {
                known.append(kind);
            }
        }
        Checks.due("30 the kinds", known.toString(), "bgor");
        for (int sign : new int[] {0, 'O', 'd', 'e', 'n', 'w', 'i', 256 + 'o', 0xffff}) {
            Edge.refused("30 kind " + sign, Checks.ILLEGAL_ARGUMENT, Courts::busy,
                    hall -> hall.count((char) sign));
        }
    }

    private static String counts(PrecedentHall hall) {
        StringBuilder all = new StringBuilder();
        for (char kind : "ogbr".toCharArray()) {
            all.append(hall.count(kind)).append(' ');
        }
        return all.toString().trim();
    }

    private static void countNoneAndAll() {
        PrecedentHall hall = court(1);
        Checks.due("30 no reports", counts(hall), "0 0 0 0");
        for (int report = 0; report < 20; report++) {
            hall.file(0, 1, 1, 0);
            hall.vote(report, 2, true);
        }
        Checks.due("30 all open", counts(hall), "20 0 0 0");
        for (int report = 0; report < 20; report++) {
            hall.decide(report);
        }
        Checks.due("30 all 'g'", counts(hall), "0 20 0 0");
        for (int report = 0; report < 20; report++) {
            hall.appeal(report);
        }
        Checks.due("30 all under appeal", counts(hall), "0 0 0 0");
        for (int report = 0; report < 20; report++) {
            hall.vote(report, 2, false);
            hall.decide(report);
        }
        Checks.due("30 all reversed", counts(hall), "0 0 0 20");
        PrecedentHall byBot = court(1);
        byBot.addBot(0, 50);
        for (int report = 0; report < 20; report++) {
            byBot.file(0, 1, 1, 50);
        }
        Checks.due("30 all by a bot", counts(byBot), "0 20 20 0");
        byBot.appeal(0);
        Checks.due("30 all but one", counts(byBot), "0 19 19 0");
        byBot.vote(0, 2, true);
        byBot.decide(0);
        Checks.due("30 'g' once more, though not by a bot", counts(byBot), "0 20 19 0");
    }

    // ---- promise 31

    private static void meanEvidenceNone() {
        Edge.Call call = PrecedentHall::meanEvidence;
        Edge.refused("31 only open ones", Checks.ARITHMETIC, FiguresEdgesTest::oneReport, call);
        Edge.refused("31 only innocent", Checks.ARITHMETIC, () -> {
            PrecedentHall hall = court(1);
            Courts.decided(hall, 1, false);
            return hall;
        }, call);
        Edge.refused("31 only 'n' and 'w'", Checks.ARITHMETIC, () -> {
            PrecedentHall hall = Courts.small();
            Courts.decided(hall, 4, true);
            Courts.decided(hall, 128, true);
            return hall;
        }, call);
        Edge.refused("31 only under appeal", Checks.ARITHMETIC, () -> {
            PrecedentHall hall = sentenced(1);
            hall.appeal(0);
            return hall;
        }, call);
        Edge.answers("31 decided anew", 0.0, () -> {
            PrecedentHall hall = sentenced(1);
            Courts.decidedAnew(hall, 0, true);
            return hall;
        }, call);
    }

    private static double meanOf(int... evidences) {
        PrecedentHall hall = court(1);
        for (int evidence : evidences) {
            int report = hall.file(0, 1, 1, evidence);
            hall.vote(report, 2, true);
            hall.decide(report);
        }
        hall.file(0, 1, 1, 77);
        return hall.meanEvidence();
    }

    private static void meanEvidenceEnds() {
        Checks.due("31 the least of one", meanOf(0), 0.0);
        Checks.due("31 the greatest of one", meanOf(100), 100.0);
        Checks.due("31 of two", meanOf(0, 1), 0.5);
        Checks.due("31 not rounded", meanOf(0, 0, 1), 1.0 / 3.0);
        Checks.due("31 of seven", meanOf(100, 100, 100, 100, 100, 100, 99), 699.0 / 7.0);
    }

    private static void meanEvidenceOfMany() {
        int[] greatest = new int[19];
        java.util.Arrays.fill(greatest, 100);
        Checks.due("31 of nineteen", meanOf(greatest), 100.0);
        greatest[0] = 0;
        Checks.due("31 of nineteen, one the least", meanOf(greatest), 1800.0 / 19.0);
    }

    // ---- promise 32

    private static void reversedShareNone() {
        Edge.Call call = PrecedentHall::reversedShare;
        Edge.refused("32 no reports", Checks.ARITHMETIC, Courts::empty, call);
        Edge.refused("32 decided once", Checks.ARITHMETIC, () -> sentenced(1), call);
        Edge.refused("32 under appeal", Checks.ARITHMETIC, () -> {
            PrecedentHall hall = sentenced(1);
            hall.appeal(0);
            hall.vote(0, 2, false);
            return hall;
        }, call);
    }

    /** The share of so many new decisions, of which some have another outcome. */
    private static float shareOf(int number, int reversed) {
        PrecedentHall hall = court(1);
        for (int report = 0; report < number; report++) {
            Courts.decided(hall, 1, report % 2 == 0);
            Courts.decidedAnew(hall, report, report % 2 == 0 ^ report < reversed);
        }
        return hall.reversedShare();
    }

    private static void reversedShareEnds() {
        Checks.due("32 none of one", shareOf(1, 0), 0.0f);
        Checks.due("32 one of one", shareOf(1, 1), 1.0f);
        Checks.due("32 none of twenty", shareOf(20, 0), 0.0f);
        Checks.due("32 one of twenty", shareOf(20, 1), 1.0f / 20.0f);
        Checks.due("32 nineteen of twenty", shareOf(20, 19), 19.0f / 20.0f);
        Checks.due("32 all of twenty", shareOf(20, 20), 1.0f);
        Checks.due("32 two of three", shareOf(3, 2), 2.0f / 3.0f);
        PrecedentHall hall = court(1);
        Courts.decided(hall, 1, true);
        Courts.decided(hall, 1, true);
        Courts.decidedAnew(hall, 0, false);
        hall.appeal(1);
        Checks.due("32 without one under appeal", hall.reversedShare(), 1.0f);
    }

    // ---- promise 33

    private static void sanctionDaysFirst() {
        Edge.answers("33 no sanctions", 0L, () -> Courts.onDay(1000),
                PrecedentHall::sanctionDays);
        Edge.answers("33 its first day has not ended", 0L, () -> sentenced(60),
                PrecedentHall::sanctionDays);
        Edge.answers("33 its first day has ended", 1L, () -> {
            PrecedentHall hall = sentenced(60);
            hall.pass(1);
            return hall;
        }, PrecedentHall::sanctionDays);
    }

    private static void sanctionDaysLast() {
        for (int days : new int[] {1, 2, 60}) {
            PrecedentHall hall = sentenced(days);
            Courts.passTo(hall, days);
            Checks.due("33 ahead of its last evening", hall.sanctionDays(), days - 1L);
            hall.pass(1);
            Checks.due("33 its last day has ended", hall.sanctionDays(), (long) days);
            hall.pass(100);
            Checks.due("33 nothing after it", hall.sanctionDays(), (long) days);
        }
        Edge.answers("33 all at once", 60L, () -> {
            PrecedentHall hall = sentenced(60);
            hall.pass(100);
            return hall;
        }, PrecedentHall::sanctionDays);
    }

    private static long sanctionDaysWhenEndedAfter(int days) {
        PrecedentHall hall = sentenced(3);
        if (days > 0) {
            hall.pass(days);
        }
        hall.appeal(0);
        hall.pass(10);
        return hall.sanctionDays();
    }

    private static void sanctionDaysEnded() {
        Checks.due("33 ended on its first day", sanctionDaysWhenEndedAfter(0), 0L);
        Checks.due("33 ended on its second day", sanctionDaysWhenEndedAfter(1), 1L);
        Checks.due("33 ended on its last day", sanctionDaysWhenEndedAfter(2), 2L);
        Checks.due("33 appeal the day after it", sanctionDaysWhenEndedAfter(3), 3L);
        Checks.due("33 appeal long after it", sanctionDaysWhenEndedAfter(50), 3L);
        PrecedentHall hall = sentenced(3);
        hall.pass(1);
        Courts.decidedAnew(hall, 0, true);
        Checks.due("33 decided anew the same day", hall.sanctionDays(), 1L);
        hall.pass(1);
        Checks.due("33 the new one alone counts that day", hall.sanctionDays(), 2L);
        hall.pass(10);
        Checks.due("33 with all days of the new one", hall.sanctionDays(), 4L);
    }

    private static void sanctionDaysLastOfAll() {
        PrecedentHall hall = court(60);
        Courts.passTo(hall, 999);
        Courts.decided(hall, 1, true);
        hall.pass(1);
        Courts.decided(hall, 1, true);
        Checks.due("33 day 1000 never ends", hall.sanctionDays(), 1L);
    }

    // ---- promise 34

    private static void isConsistentAlways() {
        Edge.Call call = PrecedentHall::isConsistent;
        Edge.answers("34 empty", true, Courts::empty, call);
        Edge.answers("34 full", true, Courts::full, call);
        Edge.answers("34 busy", true, Courts::busy, call);
        Edge.answers("34 on day 1000", true, () -> Courts.onDay(1000), call);
        Edge.answers("34 after a refused call", true, Courts::full, hall -> {
            Checks.result(() -> hall.file(0, 1, 255, 100));
            Checks.result(() -> hall.addBot(0, 101));
            return hall.isConsistent();
        });
        for (int threshold : new int[] {50, 51, 95, 96, 100}) {
            for (boolean isGuilty : new boolean[] {false, true}) {
                PrecedentHall hall = court(1);
                hall.addBot(0, threshold);
                hall.file(0, 1, 1, 100);
                Courts.decidedAnew(hall, 0, isGuilty);
                Checks.due("34 threshold " + threshold, hall.isConsistent(), true);
            }
        }
    }
}
