/** The sentence of "Terms": a method that throws an exception changes nothing. */
public final class RefusalTest {
    private RefusalTest() {
    }

    public static void main(String[] args) {
        PrecedentHall refusing = Courts.busy();
        refuseAll(refusing);
        Checks.due("all is as it was", Checks.snapshot(refusing), Checks.snapshot(Courts.busy()));
        goOn(refusing);
        PrecedentHall other = Courts.busy();
        goOn(other);
        Checks.due("all goes on as it would", Checks.snapshot(refusing), Checks.snapshot(other));
        refuseInFullCourt();
        Checks.finish();
    }

    private static void refuseAll(PrecedentHall hall) {
        refuse("addRule", Checks.ILLEGAL_ARGUMENT, () -> hall.addRule(0, true, 1, 1, 1));
        refuse("repeal", Checks.ILLEGAL_ARGUMENT, () -> hall.repeal(0, 1));
        refuse("repeal again", Checks.ILLEGAL_STATE, () -> hall.repeal(1, 8));
        refuse("addUser", Checks.ILLEGAL_ARGUMENT, () -> hall.addUser(0));
        refuse("setWeight", Checks.ILLEGAL_ARGUMENT, () -> hall.setWeight(0, 10));
        refuse("addBot", Checks.ILLEGAL_ARGUMENT, () -> hall.addBot(0, 49));
        refuse("file, no user", Checks.OUT_OF_BOUNDS, () -> hall.file(0, 4, 1, 100));
        refuse("file, same user", Checks.ILLEGAL_ARGUMENT, () -> hall.file(0, 0, 1, 100));
        refuse("file, facts", Checks.ILLEGAL_ARGUMENT, () -> hall.file(0, 1, 257, 100));
        refuse("file, evidence", Checks.ILLEGAL_ARGUMENT, () -> hall.file(0, 1, 1, 101));
        refuse("vote, decided", Checks.ILLEGAL_STATE, () -> hall.vote(1, 3, false));
        refuse("vote, reporter", Checks.UNSUPPORTED, () -> hall.vote(0, 0, false));
        refuse("vote, accused", Checks.UNSUPPORTED, () -> hall.vote(2, 2, false));
        refuse("vote, sanctioned", Checks.UNSUPPORTED, () -> hall.vote(0, 2, false));
        refuse("setQuorum", Checks.ILLEGAL_ARGUMENT, () -> hall.setQuorum(0));
        refuse("decide, decided", Checks.ILLEGAL_STATE, () -> hall.decide(1));
        refuse("decide, quorum", Checks.UNSUPPORTED, () -> hall.decide(5));
        refuse("outcome", Checks.NO_ELEMENT, () -> hall.outcome(0));
        refuse("outcomeAnew", Checks.NO_ELEMENT, () -> hall.outcomeAnew(2));
        refuse("appeal, open", Checks.ILLEGAL_STATE, () -> hall.appeal(0));
        refuse("appeal, under appeal", Checks.ILLEGAL_STATE, () -> hall.appeal(2));
        refuse("appeal again", Checks.UNSUPPORTED, () -> hall.appeal(3));
        refuse("pass", Checks.ILLEGAL_ARGUMENT, () -> hall.pass(101));
        refuse("count", Checks.ILLEGAL_ARGUMENT, () -> hall.count('x'));
    }

    private static void refuse(String what, Class<? extends RuntimeException> want,
            Checks.Call call) {
        Checks.thrown("refused " + what, want, call);
    }

    private static void goOn(PrecedentHall hall) {
        hall.pass(3);
        hall.vote(2, 3, false);
        hall.decide(2);
        hall.appeal(1);
        hall.vote(1, 3, true);
        hall.decide(1);
        hall.file(3, 0, 3, 99);
        hall.vote(5, 3, true);
        hall.decide(5);
    }

    private static void refuseInFullCourt() {
        PrecedentHall hall = Courts.full();
        refuse("a rule too many", Checks.ILLEGAL_STATE, () -> hall.addRule(0, true, 1, 1, 9));
        refuse("a user too many", Checks.ILLEGAL_STATE, () -> hall.addUser(1));
        refuse("a bot too many", Checks.ILLEGAL_STATE, () -> hall.addBot(1, 50));
        refuse("a report too many", Checks.ILLEGAL_STATE, () -> hall.file(0, 1, 2, 100));
        Checks.due("the full court is as it was", Checks.snapshot(hall),
                Checks.snapshot(Courts.full()));
    }
}
