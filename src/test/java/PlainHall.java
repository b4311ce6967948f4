import java.util.ArrayList;
import java.util.List;
import java.util.Map;
import java.util.NoSuchElementException;
import java.util.Set;
import java.util.TreeMap;
import java.util.TreeSet;

/** The document once more, written another way: sets of days, and the decisions in a list. */
final class PlainHall {
    private static final class Law {
        int kind;
        boolean isForbidding;
        int rank;
        int days;
        boolean isRepealed;
        final Set<Integer> daysInForce = new TreeSet<>();
    }

    private static final class Case {
        int reporter;
        int accused;
        final Set<Integer> kinds = new TreeSet<>();
        int evidence;
        int day;
        int bot = -1;
        char state = 'o';
        final Map<Integer, Integer> pro = new TreeMap<>();
        final Map<Integer, Integer> contra = new TreeMap<>();
        final List<Character> outcomes = new ArrayList<>();
        Set<Integer> sentence = new TreeSet<>();

        char lastOutcome() {
            return outcomes.get(outcomes.size() - 1);
        }

        boolean isDecidedTwice() {
            return outcomes.size() == 2;
        }

        boolean isReversed() {
            return isDecidedTwice() && !outcomes.get(0).equals(outcomes.get(1));
        }
    }

    private final List<Law> laws = new ArrayList<>();
    private final List<Integer> weights = new ArrayList<>();
    private final List<int[]> bots = new ArrayList<>();
    private final List<Case> cases = new ArrayList<>();
    private final List<Set<Integer>> sentences = new ArrayList<>();
    private final List<Integer> sentenced = new ArrayList<>();
    private final List<Case> standing = new ArrayList<>();
    private int day;
    private int quorum = 5;
    private int decided;
    private long daysServed;

    private static void index(int index, List<?> list) {
        if (index < 0 || index >= list.size()) {
            throw new IndexOutOfBoundsException();
        }
    }

    private static void argument(boolean isRight) {
        if (!isRight) {
            throw new IllegalArgumentException();
        }
    }

    private static void state(boolean isRight) {
        if (!isRight) {
            throw new IllegalStateException();
        }
    }

    private static void supported(boolean isRight) {
        if (!isRight) {
            throw new UnsupportedOperationException();
        }
    }

    private static void element(boolean isThere) {
        if (!isThere) {
            throw new NoSuchElementException();
        }
    }

    int addRule(int kind, boolean isForbidding, int rank, int days, int first) {
        argument(kind >= 0 && kind <= 7 && rank >= 0 && rank <= 9);
        argument(days >= 1 && days <= 60 && first > day && first <= 1000);
        state(laws.size() < 12);
        Law law = new Law();
        law.kind = kind;
        law.isForbidding = isForbidding;
        law.rank = rank;
        law.days = days;
        for (int d = first; d <= 1000; d++) {
            law.daysInForce.add(d);
        }
        laws.add(law);
        return laws.indexOf(law);
    }

    int repeal(int rule, int on) {
        index(rule, laws);
        Law law = laws.get(rule);
        int first = law.daysInForce.iterator().next();
        argument(on > day && on > first && on <= 1000);
        state(!law.isRepealed);
        law.isRepealed = true;
        law.daysInForce.removeIf(d -> d >= on);
        return (int) laws.stream().filter(l -> l.daysInForce.contains(on)).count();
    }

    boolean isInForce(int rule, int on) {
        index(rule, laws);
        argument(on >= 0 && on <= 1000);
        return laws.get(rule).daysInForce.contains(on);
    }

    private Law lawFor(Case c) {
        Law found = null;
        for (int rank = 9; rank >= 0 && found == null; rank--) {
            for (Law law : laws) {
                if (law.rank == rank && law.daysInForce.contains(c.day)
                        && c.kinds.contains(law.kind)) {
                    found = law;
                }
            }
        }
        return found;
    }

    int applying(int report) {
        index(report, cases);
        Law law = lawFor(cases.get(report));
        element(law != null);
        return laws.indexOf(law);
    }

    int conflicts(int on) {
        argument(on >= 0 && on <= 1000);
        int pairs = 0;
        for (Law a : laws) {
            for (Law b : laws) {
                boolean both = a.daysInForce.contains(on) && b.daysInForce.contains(on);
                if (both && a.isForbidding && !b.isForbidding && a.kind == b.kind
                        && a.rank == b.rank) {
                    pairs++;
                }
            }
        }
        return pairs;
    }

    int addUser(int weight) {
        argument(weight >= 1 && weight <= 9);
        state(weights.size() < 8);
        weights.add(weight);
        return weights.size() - 1;
    }

    int setWeight(int user, int weight) {
        index(user, weights);
        argument(weight >= 1 && weight <= 9);
        return weights.set(user, weight);
    }

    int sanctions(int user) {
        index(user, weights);
        int number = 0;
        for (int i = 0; i < sentences.size(); i++) {
            if (sentenced.get(i) == user && sentences.get(i).contains(day)) {
                number++;
            }
        }
        return number;
    }

    int sanctionedUntil(int user) {
        element(sanctions(user) > 0);
        int until = day;
        boolean isFree = false;
        while (!isFree) {
            until++;
            isFree = true;
            for (int i = 0; i < sentences.size(); i++) {
                if (sentenced.get(i) == user && sentences.get(i).contains(until)) {
                    isFree = false;
                }
            }
        }
        return until;
    }

    int addBot(int kind, int threshold) {
        argument(kind >= 0 && kind <= 7 && threshold >= 50 && threshold <= 100);
        state(bots.size() < 4);
        bots.add(new int[] {kind, threshold});
        return bots.size() - 1;
    }

    int threshold(int bot) {
        index(bot, bots);
        return bots.get(bot)[1];
    }

    int file(int reporter, int accused, int facts, int evidence) {
        index(reporter, weights);
        index(accused, weights);
        argument(reporter != accused && facts >= 1 && facts <= 255);
        argument(evidence >= 0 && evidence <= 100);
        state(cases.size() < 20);
        Case c = new Case();
        c.reporter = reporter;
        c.accused = accused;
        c.evidence = evidence;
        c.day = day;
        for (int kind = 0, value = 1; kind < 8; kind++, value *= 2) {
            if (facts / value % 2 == 1) {
                c.kinds.add(kind);
            }
        }
        cases.add(c);
        for (int bot = 3; bot >= 0; bot--) {
            boolean isThere = bot < bots.size();
            if (isThere && c.kinds.contains(bots.get(bot)[0]) && bots.get(bot)[1] <= evidence) {
                c.bot = bot;
            }
        }
        if (c.bot >= 0) {
            judge(c, evidence / 10, 0);
        }
        return cases.indexOf(c);
    }

    private void judge(Case c, int pro, int contra) {
        Law law = lawFor(c);
        Case earlier = precedentOf(c);
        int balance = pro - contra;
        if (earlier != null) {
            balance += earlier.lastOutcome() == 'g' ? 5 : -5;
        }
        char outcome = balance > 0 ? 'g' : 'i';
        if (law == null) {
            outcome = 'n';
        } else if (!law.isForbidding) {
            outcome = 'w';
        }
        c.outcomes.add(outcome);
        c.state = 'd';
        standing.add(c);
        decided++;
        if (outcome == 'g') {
            c.sentence = new TreeSet<>();
            for (int d = 0; d < law.days; d++) {
                c.sentence.add(day + d);
            }
            sentences.add(c.sentence);
            sentenced.add(c.accused);
        }
    }

    char state(int report) {
        index(report, cases);
        return cases.get(report).state;
    }

    int vote(int report, int user, boolean isGuilty) {
        index(report, cases);
        index(user, weights);
        Case c = cases.get(report);
        state(c.state != 'd');
        supported(user != c.reporter && user != c.accused && sanctions(user) == 0);
        c.pro.remove(user);
        c.contra.remove(user);
        (isGuilty ? c.pro : c.contra).put(user, weights.get(user));
        return weightFor(report) + weightAgainst(report);
    }

    private static int sum(Map<Integer, Integer> votes) {
        return votes.values().stream().mapToInt(Integer::intValue).sum();
    }

    int weightFor(int report) {
        index(report, cases);
        return sum(cases.get(report).pro);
    }

    int weightAgainst(int report) {
        index(report, cases);
        return sum(cases.get(report).contra);
    }

    int setQuorum(int weight) {
        argument(weight >= 1 && weight <= 50);
        int previous = quorum;
        quorum = weight;
        return previous;
    }

    private static int alike(Case a, Case b) {
        return (int) a.kinds.stream().filter(b.kinds::contains).count();
    }

    private Case precedentOf(Case c) {
        for (int most = 8; most >= 2; most--) {
            for (int i = standing.size() - 1; i >= 0; i--) {
                Case other = standing.get(i);
                boolean isClear = other.lastOutcome() == 'g' || other.lastOutcome() == 'i';
                if (other != c && isClear && alike(other, c) == most) {
                    return other;
                }
            }
        }
        return null;
    }

    int precedent(int report) {
        index(report, cases);
        Case found = precedentOf(cases.get(report));
        element(found != null);
        return cases.indexOf(found);
    }

    char decide(int report) {
        index(report, cases);
        Case c = cases.get(report);
        state(c.state != 'd');
        supported(sum(c.pro) + sum(c.contra) >= quorum);
        judge(c, sum(c.pro), sum(c.contra));
        if (c.isDecidedTwice() && c.bot >= 0 && c.outcomes.get(0) == 'g') {
            int[] bot = bots.get(c.bot);
            bot[1] = c.isReversed() ? Math.min(100, bot[1] + 5) : Math.max(50, bot[1] - 1);
        }
        return c.lastOutcome();
    }

    char outcome(int report) {
        index(report, cases);
        element(standing.contains(cases.get(report)));
        return cases.get(report).lastOutcome();
    }

    char outcomeAnew(int report) {
        return outcome(report);
    }

    boolean isByBot(int report) {
        outcome(report);
        return cases.get(report).bot >= 0 && cases.get(report).outcomes.size() == 1;
    }

    int appeal(int report) {
        index(report, cases);
        Case c = cases.get(report);
        state(c.state == 'd');
        supported(!c.isDecidedTwice());
        c.state = 'e';
        standing.remove(c);
        c.sentence.removeIf(d -> d >= day);
        return (int) cases.stream().filter(other -> other.state == 'e').count();
    }

    boolean wasReversed(int report) {
        index(report, cases);
        return cases.get(report).isReversed();
    }

    int today() {
        return day;
    }

    int pass(int days) {
        argument(days >= 1 && days <= 100);
        state(day + days <= 1000);
        List<Set<Integer>> before = new ArrayList<>(sentences);
        before.removeIf(sentence -> !sentence.contains(day));
        for (int i = 0; i < days; i++) {
            daysServed += sentences.stream().filter(s -> s.contains(day)).count();
            day++;
        }
        before.removeIf(sentence -> sentence.contains(day));
        return before.size();
    }

    int decisions() {
        return decided;
    }

    int likeness(int report, int other) {
        index(report, cases);
        index(other, cases);
        return alike(cases.get(report), cases.get(other));
    }

    int count(char kind) {
        argument("ogbr".indexOf(kind) >= 0);
        int number = 0;
        for (int i = 0; i < cases.size(); i++) {
            Case c = cases.get(i);
            boolean stands = standing.contains(c);
            boolean isCounted = kind == 'o' && c.state == 'o'
                    || kind == 'g' && stands && c.lastOutcome() == 'g'
                    || kind == 'b' && stands && isByBot(i)
                    || kind == 'r' && c.isReversed();
            number += isCounted ? 1 : 0;
        }
        return number;
    }

    double meanEvidence() {
        int number = count('g');
        if (number == 0) {
            throw new ArithmeticException();
        }
        int sum = 0;
        for (Case c : standing) {
            sum += c.lastOutcome() == 'g' ? c.evidence : 0;
        }
        return (double) sum / (double) number;
    }

    float reversedShare() {
        long number = cases.stream().filter(Case::isDecidedTwice).count();
        if (number == 0) {
            throw new ArithmeticException();
        }
        return (float) count('r') / (float) number;
    }

    long sanctionDays() {
        return daysServed;
    }

    boolean isConsistent() {
        return true;
    }
}
