import java.util.ArrayList;
import java.util.NoSuchElementException;

/** A rule book and its court; the numbered promises of the document say what each method does. */
public final class PrecedentHall {
    private static final int LAST_DAY = 1000;
    private static final int LAST_KIND = 7;
    private static final int MOST_RULES = 12;
    private static final int TOP_RANK = 9;
    private static final int MOST_SANCTION_DAYS = 60;
    private static final int MOST_USERS = 8;
    private static final int TOP_WEIGHT = 9;
    private static final int MOST_BOTS = 4;
    private static final int LEAST_THRESHOLD = 50;
    private static final int TOP_THRESHOLD = 100;
    private static final int MOST_REPORTS = 20;
    private static final int ALL_KINDS = 255;
    private static final int FULL_EVIDENCE = 100;
    private static final int FIRST_QUORUM = 5;
    private static final int TOP_QUORUM = 50;
    private static final int MOST_DAYS_AT_ONCE = 100;
    private static final int LEAST_LIKENESS = 2;
    private static final int PRECEDENT_WEIGHT = 5;
    private static final int NONE = -1;

    private static final char OPEN = 'o';
    private static final char DECIDED = 'd';
    private static final char UNDER_APPEAL = 'e';

    private static final char NO_RULE = 'n';
    private static final char ALLOWED = 'w';
    private static final char GUILTY = 'g';
    private static final char INNOCENT = 'i';
    private static final char NOT_DECIDED = '-';

    private static final char BY_BOTS = 'b';
    private static final char REVERSED = 'r';

    private final ArrayList<Rule> rules;
    private final ArrayList<User> users;
    private final ArrayList<Bot> bots;
    private final ArrayList<Report> reports;
    private final ArrayList<Sanction> sanctionsMade;
    private final ArrayList<Entry> minutes;
    private final Standing asDecided;
    private final Standing foundAnew;
    private int presentDay;
    private int quorum;

    public PrecedentHall() {
        rules = new ArrayList<Rule>();
        users = new ArrayList<User>();
        bots = new ArrayList<Bot>();
        reports = new ArrayList<Report>();
        sanctionsMade = new ArrayList<Sanction>();
        minutes = new ArrayList<Entry>();
        asDecided = new Standing();
        foundAnew = new Standing();
        presentDay = 0;
        quorum = FIRST_QUORUM;
    }

    // ---- rules

    public int addRule(int kind, boolean isForbidding, int rank, int days, int first)
            throws IllegalArgumentException, IllegalStateException {
        requireWithin(kind, 0, LAST_KIND);
        requireWithin(rank, 0, TOP_RANK);
        requireWithin(days, 1, MOST_SANCTION_DAYS);
        requireWithin(first, presentDay + 1, LAST_DAY);
        requireRoom(rules.size(), MOST_RULES);
        rules.add(new Rule(kind, isForbidding, rank, days, first));
        return rules.size() - 1;
    }

    public int repeal(int rule, int day)
            throws IndexOutOfBoundsException, IllegalArgumentException, IllegalStateException {
        Rule repealed = ruleAt(rule);
        requireWithin(day, Math.max(presentDay, repealed.first) + 1, LAST_DAY);
        if (repealed.isRepealed()) {
            throw new IllegalStateException("the day of the repeal was told before");
        }
        repealed.end = day;
        return rulesInForce(day);
    }

    public boolean isInForce(int rule, int day)
            throws IndexOutOfBoundsException, IllegalArgumentException {
        Rule asked = ruleAt(rule);
        requireWithin(day, 0, LAST_DAY);
        return asked.holdsOn(day);
    }

    public int applying(int report) throws IndexOutOfBoundsException, NoSuchElementException {
        int rule = ruleFor(reportAt(report));
        if (rule == NONE) {
            throw new NoSuchElementException("no rule applies");
        }
        return rule;
    }

    public int conflicts(int day) throws IllegalArgumentException {
        requireWithin(day, 0, LAST_DAY);
        int pairs = 0;
        for (int i = 0; i < rules.size(); i++) {
            for (int j = 0; j < i; j++) {
                if (areInConflict(rules.get(i), rules.get(j), day)) {
                    pairs++;
                }
            }
        }
        return pairs;
    }

    // ---- people and bots

    public int addUser(int weight) throws IllegalArgumentException, IllegalStateException {
        requireWithin(weight, 1, TOP_WEIGHT);
        requireRoom(users.size(), MOST_USERS);
        users.add(new User(weight));
        return users.size() - 1;
    }

    public int setWeight(int user, int weight)
            throws IndexOutOfBoundsException, IllegalArgumentException {
        User changed = userAt(user);
        requireWithin(weight, 1, TOP_WEIGHT);
        int previous = changed.weight;
        changed.weight = weight;
        return previous;
    }

    public int sanctions(int user) throws IndexOutOfBoundsException {
        return presentSanctions(userAt(user));
    }

    public int sanctionedUntil(int user) throws IndexOutOfBoundsException, NoSuchElementException {
        User asked = userAt(user);
        if (presentSanctions(asked) == 0) {
            throw new NoSuchElementException("the user is not sanctioned");
        }
        int until = presentDay;
        for (int i = 0; i < sanctionsMade.size(); i++) {
            Sanction sanction = sanctionsMade.get(i);
            if (sanction.user == asked && sanction.includes(presentDay)) {
                until = Math.max(until, sanction.end);
            }
        }
        return until;
    }

    public int addBot(int kind, int threshold)
            throws IllegalArgumentException, IllegalStateException {
        requireWithin(kind, 0, LAST_KIND);
        requireWithin(threshold, LEAST_THRESHOLD, TOP_THRESHOLD);
        requireRoom(bots.size(), MOST_BOTS);
        bots.add(new Bot(kind, threshold));
        return bots.size() - 1;
    }

    public int threshold(int bot) throws IndexOutOfBoundsException {
        requireIndex(bot, bots.size());
        return bots.get(bot).threshold;
    }

    // ---- reports, votes and decisions

    public int file(int reporter, int accused, int facts, int evidence)
            throws IndexOutOfBoundsException, IllegalArgumentException, IllegalStateException {
        User reporting = userAt(reporter);
        User reported = userAt(accused);
        if (reporter == accused) {
            throw new IllegalArgumentException("reporter and accused are the same");
        }
        requireWithin(facts, 1, ALL_KINDS);
        requireWithin(evidence, 0, FULL_EVIDENCE);
        requireRoom(reports.size(), MOST_REPORTS);
        int number = reports.size();
        Report report = new Report(number, reporting, reported, facts, evidence, presentDay);
        reports.add(report);
        report.bot = botFor(report);
        if (report.bot != null) {
            settle(report, evidence / 10, 0);
        }
        return number;
    }

    public char state(int report) throws IndexOutOfBoundsException {
        return reportAt(report).state;
    }

    public int vote(int report, int user, boolean isGuilty)
            throws IndexOutOfBoundsException, IllegalStateException, UnsupportedOperationException {
        Report votedOn = reportAt(report);
        User voter = userAt(user);
        requireUndecided(votedOn);
        if (voter == votedOn.reporter || voter == votedOn.accused) {
            throw new UnsupportedOperationException("the user is a party");
        }
        if (presentSanctions(voter) > 0) {
            throw new UnsupportedOperationException("the user is sanctioned");
        }
        votedOn.enterVote(user, isGuilty ? voter.weight : -voter.weight);
        return votedOn.sumFor() + votedOn.sumAgainst();
    }

    public int weightFor(int report) throws IndexOutOfBoundsException {
        return reportAt(report).sumFor();
    }

    public int weightAgainst(int report) throws IndexOutOfBoundsException {
        return reportAt(report).sumAgainst();
    }

    public int setQuorum(int weight) throws IllegalArgumentException {
        requireWithin(weight, 1, TOP_QUORUM);
        int previous = quorum;
        quorum = weight;
        return previous;
    }

    public int precedent(int report) throws IndexOutOfBoundsException, NoSuchElementException {
        int found = precedentFor(reportAt(report), asDecided);
        if (found == NONE) {
            throw new NoSuchElementException("there is no precedent");
        }
        return found;
    }

    public char decide(int report)
            throws IndexOutOfBoundsException, IllegalStateException, UnsupportedOperationException {
        Report decided = reportAt(report);
        requireUndecided(decided);
        int sumFor = decided.sumFor();
        int sumAgainst = decided.sumAgainst();
        if (sumFor + sumAgainst < quorum) {
            throw new UnsupportedOperationException("the votes are less than the quorum");
        }
        boolean isOnAppeal = decided.state == UNDER_APPEAL;
        char outcome = settle(decided, sumFor, sumAgainst);
        if (isOnAppeal) {
            closeAppeal(decided, outcome);
        }
        return outcome;
    }

    public char outcome(int report) throws IndexOutOfBoundsException, NoSuchElementException {
        requireStanding(reportAt(report));
        return asDecided.outcomeOf(report);
    }

    public char outcomeAnew(int report) throws IndexOutOfBoundsException, NoSuchElementException {
        requireStanding(reportAt(report));
        settleAllAnew();
        return foundAnew.outcomeOf(report);
    }

    public boolean isByBot(int report) throws IndexOutOfBoundsException, NoSuchElementException {
        Report asked = reportAt(report);
        requireStanding(asked);
        return asked.standsByBot();
    }

    public int appeal(int report)
            throws IndexOutOfBoundsException, IllegalStateException, UnsupportedOperationException {
        Report appealed = reportAt(report);
        if (appealed.state != DECIDED) {
            throw new IllegalStateException("the report is not decided");
        }
        if (appealed.wasAppealed) {
            throw new UnsupportedOperationException("the report was under appeal before");
        }
        appealed.wasAppealed = true;
        appealed.state = UNDER_APPEAL;
        appealed.earlierOutcome = asDecided.outcomeOf(report);
        asDecided.lift(report);
        minutes.add(new Entry(appealed, true, 0, 0));
        if (appealed.sanction != null) {
            appealed.sanction.cutAt(presentDay);
        }
        return reportsInState(UNDER_APPEAL);
    }

    public boolean wasReversed(int report) throws IndexOutOfBoundsException {
        return reportAt(report).isReversed;
    }

    // ---- days and figures

    public int today() {
        return presentDay;
    }

    public int pass(int days) throws IllegalArgumentException, IllegalStateException {
        requireWithin(days, 1, MOST_DAYS_AT_ONCE);
        if (presentDay + days > LAST_DAY) {
            throw new IllegalStateException("the days end before");
        }
        int earlierDay = presentDay;
        presentDay += days;
        int lapsed = 0;
        for (int i = 0; i < sanctionsMade.size(); i++) {
            Sanction sanction = sanctionsMade.get(i);
            if (sanction.includes(earlierDay) && !sanction.includes(presentDay)) {
                lapsed++;
            }
        }
        return lapsed;
    }

    public int decisions() {
        return asDecided.made;
    }

    public int likeness(int report, int other) throws IndexOutOfBoundsException {
        return commonKinds(reportAt(report), reportAt(other));
    }

    public int count(char kind) throws IllegalArgumentException {
        if (kind == OPEN) {
            return reportsInState(OPEN);
        }
        if (kind == GUILTY) {
            return guiltyReports();
        }
        if (kind == BY_BOTS) {
            return reportsByBots();
        }
        if (kind == REVERSED) {
            return reversedReports();
        }
        throw new IllegalArgumentException("no such kind of reports");
    }

    public double meanEvidence() throws ArithmeticException {
        int number = guiltyReports();
        if (number == 0) {
            throw new ArithmeticException("no report stands as guilty");
        }
        int sum = 0;
        for (int i = 0; i < reports.size(); i++) {
            if (asDecided.outcomeOf(i) == GUILTY) {
                sum += reports.get(i).evidence;
            }
        }
        return (double) sum / (double) number;
    }

    public float reversedShare() throws ArithmeticException {
        int number = 0;
        for (int i = 0; i < reports.size(); i++) {
            if (reports.get(i).hasNewDecision()) {
                number++;
            }
        }
        if (number == 0) {
            throw new ArithmeticException("no new decision on appeal");
        }
        return (float) reversedReports() / (float) number;
    }

    public long sanctionDays() {
        long sum = 0;
        for (int i = 0; i < sanctionsMade.size(); i++) {
            sum += sanctionsMade.get(i).daysBefore(presentDay);
        }
        return sum;
    }

    public boolean isConsistent() {
        settleAllAnew();
        for (int i = 0; i < reports.size(); i++) {
            boolean isDecided = reports.get(i).state == DECIDED;
            boolean stands = asDecided.outcomeOf(i) != NOT_DECIDED;
            if (isDecided != stands || asDecided.outcomeOf(i) != foundAnew.outcomeOf(i)) {
                return false;
            }
        }
        for (int i = 0; i < bots.size(); i++) {
            int threshold = bots.get(i).threshold;
            if (threshold < LEAST_THRESHOLD || threshold > TOP_THRESHOLD) {
                return false;
            }
        }
        return asDecided.made == foundAnew.made;
    }

    // ---- what calls must keep to

    private static void requireWithin(int value, int least, int greatest) {
        if (value < least || value > greatest) {
            throw new IllegalArgumentException("a number is out of range");
        }
    }

    private static void requireRoom(int size, int most) {
        if (size >= most) {
            throw new IllegalStateException("there are as many as there can be");
        }
    }

    private static void requireIndex(int index, int size) {
        if (index < 0 || index >= size) {
            throw new IndexOutOfBoundsException("there is none with this number");
        }
    }

    private static void requireUndecided(Report report) {
        if (report.state == DECIDED) {
            throw new IllegalStateException("the report is decided");
        }
    }

    private static void requireStanding(Report report) {
        if (report.state != DECIDED) {
            throw new NoSuchElementException("no decision stands");
        }
    }

    private Rule ruleAt(int rule) {
        requireIndex(rule, rules.size());
        return rules.get(rule);
    }

    private User userAt(int user) {
        requireIndex(user, users.size());
        return users.get(user);
    }

    private Report reportAt(int report) {
        requireIndex(report, reports.size());
        return reports.get(report);
    }

    // ---- how rules and bots are found

    private int rulesInForce(int day) {
        int number = 0;
        for (int i = 0; i < rules.size(); i++) {
            if (rules.get(i).holdsOn(day)) {
                number++;
            }
        }
        return number;
    }

    private static boolean areInConflict(Rule one, Rule other, int day) {
        return one.holdsOn(day) && other.holdsOn(day)
                && one.kind == other.kind && one.rank == other.rank
                && one.isForbidding != other.isForbidding;
    }

    // Rules begin and are repealed on later days only, so the answer never changes for a report.
    private int ruleFor(Report report) {
        int best = NONE;
        int bestRank = NONE;
        for (int i = 0; i < rules.size(); i++) {
            Rule rule = rules.get(i);
            if (rule.holdsOn(report.day) && report.tells(rule.kind) && rule.rank >= bestRank) {
                best = i;
                bestRank = rule.rank;
            }
        }
        return best;
    }

    private Bot botFor(Report report) {
        for (int i = 0; i < bots.size(); i++) {
            Bot bot = bots.get(i);
            if (report.tells(bot.kind) && bot.threshold <= report.evidence) {
                return bot;
            }
        }
        return null;
    }

    // ---- how cases are decided

    private static int commonKinds(Report one, Report other) {
        return Integer.bitCount(one.facts & other.facts);
    }

    private int precedentFor(Report report, Standing standing) {
        int best = NONE;
        int bestLikeness = 0;
        for (int i = 0; i < reports.size(); i++) {
            if (i == report.number || !standing.isGuiltyOrInnocent(i)) {
                continue;
            }
            int alike = commonKinds(report, reports.get(i));
            if (alike < LEAST_LIKENESS || alike < bestLikeness) {
                continue;
            }
            if (alike > bestLikeness || standing.turnOf(i) > standing.turnOf(best)) {
                best = i;
                bestLikeness = alike;
            }
        }
        return best;
    }

    private char findOutcome(Report report, int sumFor, int sumAgainst, Standing standing) {
        int rule = ruleFor(report);
        if (rule < 0 || rule >= rules.size()) {
            return NO_RULE;
        }
        if (!rules.get(rule).isForbidding) {
            return ALLOWED;
        }
        char earlier = standing.outcomeOf(precedentFor(report, standing));
        int pro = sumFor + (earlier == GUILTY ? PRECEDENT_WEIGHT : 0);
        int contra = sumAgainst + (earlier == INNOCENT ? PRECEDENT_WEIGHT : 0);
        return pro > contra ? GUILTY : INNOCENT;
    }

    private char settle(Report report, int sumFor, int sumAgainst) {
        char outcome = findOutcome(report, sumFor, sumAgainst, asDecided);
        asDecided.enter(report.number, outcome);
        minutes.add(new Entry(report, false, sumFor, sumAgainst));
        report.state = DECIDED;
        if (outcome == GUILTY) {
            sanctionAccused(report);
        }
        return outcome;
    }

    private void sanctionAccused(Report report) {
        int rule = ruleFor(report);
        if (rule < 0 || rule >= rules.size()) {
            return;
        }
        int end = presentDay + rules.get(rule).days;
        report.sanction = new Sanction(report.accused, presentDay, end);
        sanctionsMade.add(report.sanction);
    }

    private static void closeAppeal(Report report, char outcome) {
        report.isReversed = outcome != report.earlierOutcome;
        if (report.bot != null && report.earlierOutcome == GUILTY) {
            report.bot.learn(report.isReversed);
        }
    }

    // Appeals are gone through too: while a report is under appeal, it is no precedent.
    private void settleAllAnew() {
        foundAnew.wipe();
        for (int i = 0; i < minutes.size(); i++) {
            Entry entry = minutes.get(i);
            Report report = entry.report;
            if (entry.isAppeal) {
                foundAnew.lift(report.number);
            } else {
                foundAnew.enter(report.number,
                        findOutcome(report, entry.sumFor, entry.sumAgainst, foundAnew));
            }
        }
    }

    // ---- what is counted

    private int presentSanctions(User user) {
        int number = 0;
        for (int i = 0; i < sanctionsMade.size(); i++) {
            Sanction sanction = sanctionsMade.get(i);
            if (sanction.user == user && sanction.includes(presentDay)) {
                number++;
            }
        }
        return number;
    }

    private int reportsInState(char state) {
        int number = 0;
        for (int i = 0; i < reports.size(); i++) {
            if (reports.get(i).state == state) {
                number++;
            }
        }
        return number;
    }

    private int guiltyReports() {
        int number = 0;
        for (int i = 0; i < reports.size(); i++) {
            if (asDecided.outcomeOf(i) == GUILTY) {
                number++;
            }
        }
        return number;
    }

    private int reportsByBots() {
        int number = 0;
        for (int i = 0; i < reports.size(); i++) {
            if (reports.get(i).standsByBot()) {
                number++;
            }
        }
        return number;
    }

    private int reversedReports() {
        int number = 0;
        for (int i = 0; i < reports.size(); i++) {
            if (reports.get(i).isReversed) {
                number++;
            }
        }
        return number;
    }

    private static final class Rule {
        // No day that can be asked for lies so late: the rule is in force without an end.
        private static final int NO_END = LAST_DAY + 1;

        final int kind;
        final boolean isForbidding;
        final int rank;
        final int days;
        final int first;
        int end;

        Rule(int kind, boolean isForbidding, int rank, int days, int first) {
            this.kind = kind;
            this.isForbidding = isForbidding;
            this.rank = rank;
            this.days = days;
            this.first = first;
            end = NO_END;
        }

        boolean holdsOn(int day) {
            return first <= day && day < end;
        }

        boolean isRepealed() {
            return end != NO_END;
        }
    }

    private static final class User {
        int weight;

        User(int weight) {
            this.weight = weight;
        }
    }

    private static final class Bot {
        private static final int STEP_UP = 5;
        private static final int STEP_DOWN = 1;

        final int kind;
        int threshold;

        Bot(int kind, int threshold) {
            this.kind = kind;
            this.threshold = threshold;
        }

        void learn(boolean isReversed) {
            threshold = isReversed
                    ? Math.min(threshold + STEP_UP, TOP_THRESHOLD)
                    : Math.max(threshold - STEP_DOWN, LEAST_THRESHOLD);
        }
    }

    /** The days that a user is sanctioned: from the start until ahead of the end. */
    private static final class Sanction {
        final User user;
        final int start;
        int end;

        Sanction(User user, int start, int end) {
            this.user = user;
            this.start = start;
            this.end = end;
        }

        boolean includes(int day) {
            return start <= day && day < end;
        }

        // A sanction that has lapsed before keeps its own end.
        void cutAt(int day) {
            end = Math.min(end, day);
        }

        int daysBefore(int day) {
            return Math.min(end, day) - start;
        }
    }

    private static final class Report {
        final int number;
        final User reporter;
        final User accused;
        final int facts;
        final int evidence;
        final int day;
        // The weight of each user's vote: above 0 for 'guilty', below 0 against it, 0 for no vote.
        final int[] votes;
        char state;
        Bot bot;
        Sanction sanction;
        boolean wasAppealed;
        char earlierOutcome;
        boolean isReversed;

        Report(int number, User reporter, User accused, int facts, int evidence, int day) {
            this.number = number;
            this.reporter = reporter;
            this.accused = accused;
            this.facts = facts;
            this.evidence = evidence;
            this.day = day;
            votes = new int[MOST_USERS];
            state = OPEN;
            earlierOutcome = NOT_DECIDED;
        }

        boolean tells(int kind) {
            return (facts >> kind & 1) == 1;
        }

        void enterVote(int user, int weight) {
            if (user >= 0 && user < votes.length) {
                votes[user] = weight;
            }
        }

        int sumFor() {
            int sum = 0;
            for (int weight : votes) {
                sum += Math.max(weight, 0);
            }
            return sum;
        }

        int sumAgainst() {
            int sum = 0;
            for (int weight : votes) {
                sum += Math.max(-weight, 0);
            }
            return sum;
        }

        boolean hasNewDecision() {
            return wasAppealed && state == DECIDED;
        }

        // Bots decide only what is filed; a new decision on appeal is made from the votes.
        boolean standsByBot() {
            return bot != null && state == DECIDED && !wasAppealed;
        }
    }

    /** A decision with the weights that were counted in it, or the beginning of an appeal. */
    private static final class Entry {
        final Report report;
        final boolean isAppeal;
        final int sumFor;
        final int sumAgainst;

        Entry(Report report, boolean isAppeal, int sumFor, int sumAgainst) {
            this.report = report;
            this.isAppeal = isAppeal;
            this.sumFor = sumFor;
            this.sumAgainst = sumAgainst;
        }
    }

    /** Which decisions stand, and in which turn each was made. */
    private static final class Standing {
        final char[] outcomes;
        final int[] turns;
        int made;

        Standing() {
            outcomes = new char[MOST_REPORTS];
            turns = new int[MOST_REPORTS];
            wipe();
        }

        void wipe() {
            for (int i = 0; i < outcomes.length; i++) {
                outcomes[i] = NOT_DECIDED;
            }
            made = 0;
        }

        void enter(int report, char outcome) {
            made++;
            if (isWithin(report)) {
                outcomes[report] = outcome;
                turns[report] = made;
            }
        }

        void lift(int report) {
            if (isWithin(report)) {
                outcomes[report] = NOT_DECIDED;
            }
        }

        char outcomeOf(int report) {
            return isWithin(report) ? outcomes[report] : NOT_DECIDED;
        }

        int turnOf(int report) {
            return isWithin(report) ? turns[report] : 0;
        }

        boolean isGuiltyOrInnocent(int report) {
            char outcome = outcomeOf(report);
            return outcome == GUILTY || outcome == INNOCENT;
        }

        private boolean isWithin(int report) {
            return report >= 0 && report < outcomes.length && report < turns.length;
        }
    }
}
