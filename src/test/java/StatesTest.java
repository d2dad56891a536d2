import java.util.Arrays;
import java.util.List;
import java.util.Map;

/**
 * Each call on a complaint that stands in each place: the calls that are named are taken, each other one is refused
 * for where it stands, and changes nothing.
 */
public final class StatesTest {
    private static final Check CHECK = new Check("StatesTest");
    private static final String INTAKE = "setCourt setCourtNot excuse takeStep examine withdraw";
    private static final String INTAKE_WITH_STEP = "setCourt setCourtNot excuse examine withdraw";
    private static final String FINDING = "find findNone joinTo withdraw";
    private static final String REMEDY = "heads remedy accept acceptNot heed withdraw";
    private static final String REMEDY_OVER = "heads remedy accept acceptNot followUp withdraw";
    /** Of the three complaints of a scene the last one is received, and joins, or is joined to. */
    private static final int OTHER = 2;

    private interface Place {
        GrievanceOmbud reached();
    }

    public static void main(String[] args) {
        intake();
        received();
        asked();
        overdue();
        studied();
        decided();
        decidedAnew();
        closed();
        joined();
        joinedWithFinding();
        leads();
        leadsWithFinding();
        CHECK.end();
    }

    private static void intake() {
        at("n", 'n', 3, StatesTest::told, INTAKE);
        at("n, a court has it", 'n', 3, () -> after(told(), x -> x.setCourt(3, true)), INTAKE);
        at("n, excused", 'n', 3, () -> after(told(), x -> x.excuse(3)), INTAKE);
        at("n, first step told", 'n', 3, () -> after(told(), x -> x.takeStep(3)), INTAKE_WITH_STEP);
        at("f", 'f', 3, () -> after(told(), x -> x.examine(3)), INTAKE);
        at("f, first step told then", 'f', 3, () -> after(told(), x -> x.examine(3), x -> x.takeStep(3)),
                INTAKE_WITH_STEP);
        at("f, first step told before", 'f', 3, () -> after(told(), x -> x.takeStep(3), x -> x.examine(3)),
                INTAKE_WITH_STEP);
    }

    private static void received() {
        String calls = "ask join joinTo withdraw";
        at("r", 'r', 0, StatesTest::scene, calls);
        at("r, parted", 'r', 0, () -> after(scene(), x -> x.join(0, 1), x -> x.part(0)), calls);
        at("r, the joined one parted", 'r', 1, () -> after(scene(), x -> x.join(0, 1), x -> x.part(0)), calls);
        at("r, anew", 'r', 0, () -> after(decidedPair(1), x -> x.withdraw(1)), calls);
    }

    private static void asked() {
        String calls = "extend answer joinTo withdraw";
        at("a", 'a', 0, () -> after(scene(), x -> x.ask(0)), calls);
        at("a, on its day", 'a', 0, () -> after(scene(), x -> x.ask(0), x -> x.pass(5)), calls);
        at("a, reminded of", 'a', 0, () -> reminded(1), calls);
        at("a, reminded of three times", 'a', 0, () -> reminded(3), calls);
        at("a, reminded of three times, on its day", 'a', 0, () -> after(reminded(3), x -> x.pass(7)), calls);
        at("a, extended", 'a', 0, () -> after(scene(), x -> x.ask(0), x -> x.extend(0, 1)), "answer joinTo withdraw");
        at("a, extended behind three reminders", 'a', 0, () -> after(reminded(3), x -> x.extend(0, 30), x -> x.pass(8)),
                "answer joinTo withdraw");
    }

    private static void overdue() {
        String calls = "remind answer joinTo withdraw";
        at("a, overdue", 'a', 0, () -> after(scene(), x -> x.ask(0), x -> x.pass(6)), calls);
        at("a, extended and overdue", 'a', 0,
                () -> after(scene(), x -> x.ask(0), x -> x.extend(0, 1), x -> x.pass(7)), calls);
        at("a, overdue behind one reminder", 'a', 0, () -> after(reminded(1), x -> x.pass(8)), calls);
        at("a, overdue behind two reminders", 'a', 0, () -> after(reminded(2), x -> x.pass(8)), calls);
        at("a, overdue behind three reminders", 'a', 0, () -> after(reminded(3), x -> x.pass(8)),
                "takeSilence answer joinTo withdraw");
        at("a, overdue behind three reminders and an extension", 'a', 0,
                () -> after(reminded(3), x -> x.extend(0, 1), x -> x.pass(9)), "takeSilence answer joinTo withdraw");
    }

    private static void studied() {
        at("s", 's', 0, () -> after(scene(), x -> x.ask(0), x -> x.answer(0)), FINDING);
        at("s, answered behind three reminders", 's', 0, () -> after(reminded(3), x -> x.pass(8), x -> x.answer(0)),
                FINDING);
        at("s, by silence", 's', 0, () -> after(reminded(3), x -> x.pass(8), x -> x.takeSilence(0)), FINDING);
    }

    private static void decided() {
        at("d", 'd', 0, StatesTest::found, REMEDY);
        at("d, on its day", 'd', 0, () -> after(found(), x -> x.pass(30)), REMEDY);
        at("d, over its day", 'd', 0, () -> after(found(), x -> x.pass(31)), REMEDY_OVER);
        at("d, accepted", 'd', 0, () -> after(found(), x -> x.accept(0, true)),
                "heads remedy isAccepted heed withdraw");
        at("d, not accepted", 'd', 0, () -> after(found(), x -> x.accept(0, false)),
                "heads remedy isAccepted heed withdraw");
        at("d, accepted, over its day", 'd', 0, () -> after(found(), x -> x.accept(0, true), x -> x.pass(31)),
                "heads remedy isAccepted followUp withdraw");
    }

    private static void decidedAnew() {
        at("d, followed up", 'd', 0, StatesTest::followedUp, REMEDY);
        at("d, followed up, on its day", 'd', 0, () -> after(followedUp(), x -> x.pass(60)), REMEDY);
        at("d, followed up, over its day", 'd', 0, () -> after(followedUp(), x -> x.pass(61)), REMEDY_OVER);
        at("d, accepted, then followed up", 'd', 0,
                () -> after(found(), x -> x.accept(0, true), x -> x.pass(31), x -> x.followUp(0)), REMEDY);
        at("d, accepted anew", 'd', 0, () -> after(followedUp(), x -> x.accept(0, true)),
                "heads remedy isAccepted heed withdraw");
    }

    private static void closed() {
        at("o", 'o', 3, () -> after(told(), x -> x.setCourt(3, true), x -> x.examine(3)), "");
        at("l", 'l', 3, () -> after(scene(), x -> x.pass(361), x -> x.complain(0, 0, 0, 0), x -> x.examine(3)), "");
        at("u", 'u', 0, () -> after(scene(), x -> x.ask(0), x -> x.answer(0), x -> x.find(0, 0)), "heads");
        at("h", 'h', 0, () -> after(found(), x -> x.heed(0)), "heads remedy");
        at("h, accepted", 'h', 0, () -> after(found(), x -> x.accept(0, true), x -> x.heed(0)),
                "heads remedy isAccepted");
        at("i", 'i', 0, () -> after(followedUp(), x -> x.pass(61), x -> x.followUp(0)), "heads remedy");
        at("i, not accepted", 'i', 0,
                () -> after(followedUp(), x -> x.accept(0, false), x -> x.pass(61), x -> x.followUp(0)),
                "heads remedy isAccepted");
        at("w, new", 'w', 3, () -> after(told(), x -> x.withdraw(3)), "");
        at("w, first step lacking", 'w', 3, () -> after(told(), x -> x.examine(3), x -> x.withdraw(3)), "");
        at("w, received", 'w', 0, () -> after(scene(), x -> x.withdraw(0)), "");
        at("w, asked", 'w', 0, () -> after(scene(), x -> x.ask(0), x -> x.withdraw(0)), "");
        at("w, overdue behind three reminders", 'w', 0, () -> after(reminded(3), x -> x.pass(8), x -> x.withdraw(0)),
                "");
        at("w, studied", 'w', 0, () -> after(scene(), x -> x.ask(0), x -> x.answer(0), x -> x.withdraw(0)), "");
        at("w, decided", 'w', 0, () -> after(found(), x -> x.withdraw(0)), "heads remedy");
        at("w, decided and over its day", 'w', 0, () -> after(found(), x -> x.pass(31), x -> x.withdraw(0)),
                "heads remedy");
        at("w, lead of one", 'w', 1, () -> after(scene(), x -> x.join(0, 1), x -> x.withdraw(1)), "");
    }

    /** "From then on it stands where the lead stands, and all that is done is done to the lead." */
    private static void joined() {
        at("joined to r", 'r', 0, () -> after(scene(), x -> x.join(0, 1)), "part");
        at("joined to a", 'a', 0, () -> after(scene(), x -> x.ask(1), x -> x.join(0, 1)), "part");
        at("joined, then a", 'a', 0, () -> after(scene(), x -> x.join(0, 1), x -> x.ask(1)), "part");
        at("joined, then a, overdue", 'a', 0, () -> after(scene(), x -> x.join(0, 1), x -> x.ask(1), x -> x.pass(6)),
                "part");
        at("joined, then a, silent", 'a', 0, () -> after(silentPair(), x -> x.pass(8)), "part");
        at("joined to s", 's', 0, () -> after(scene(), x -> x.ask(1), x -> x.answer(1), x -> x.join(0, 1)), "part");
        at("joined, then s", 's', 0, () -> after(scene(), x -> x.join(0, 1), x -> x.ask(1), x -> x.answer(1)), "part");
        at("joined, then s by silence", 's', 0, () -> after(silentPair(), x -> x.pass(8), x -> x.takeSilence(1)),
                "part");
    }

    private static void joinedWithFinding() {
        at("joined, then u", 'u', 0, () -> decidedPair(0), "heads");
        at("joined, then d", 'd', 0, () -> decidedPair(1), "heads remedy");
        at("joined, then d, accepted", 'd', 0, () -> after(decidedPair(1), x -> x.accept(1, true)),
                "heads remedy isAccepted");
        at("joined, then d, over its day", 'd', 0, () -> after(decidedPair(1), x -> x.pass(31)), "heads remedy");
        at("joined, then d, followed up", 'd', 0,
                () -> after(decidedPair(1), x -> x.accept(1, true), x -> x.pass(31), x -> x.followUp(1)),
                "heads remedy");
        at("joined, then h", 'h', 0, () -> after(decidedPair(1), x -> x.heed(1)), "heads remedy");
        at("joined, then h, not accepted", 'h', 0,
                () -> after(decidedPair(1), x -> x.accept(1, false), x -> x.heed(1)), "heads remedy isAccepted");
        at("joined, then i", 'i', 0, StatesTest::ignoredPair, "heads remedy");
    }

    /** "One to which others are joined cannot be joined"; but for that a lead stands as any other. */
    private static void leads() {
        at("lead, r", 'r', 1, () -> after(scene(), x -> x.join(0, 1)), "ask joinTo withdraw");
        at("lead, a", 'a', 1, () -> after(scene(), x -> x.join(0, 1), x -> x.ask(1)), "extend answer joinTo withdraw");
        at("lead, overdue", 'a', 1, () -> after(scene(), x -> x.join(0, 1), x -> x.ask(1), x -> x.pass(6)),
                "remind answer joinTo withdraw");
        at("lead, silent", 'a', 1, () -> after(silentPair(), x -> x.pass(8)), "takeSilence answer joinTo withdraw");
        at("lead, s", 's', 1, () -> after(scene(), x -> x.join(0, 1), x -> x.ask(1), x -> x.answer(1)), FINDING);
    }

    private static void leadsWithFinding() {
        at("lead, u", 'u', 1, () -> decidedPair(0), "heads");
        at("lead, d", 'd', 1, () -> decidedPair(1), REMEDY);
        at("lead, d, over its day", 'd', 1, () -> after(decidedPair(1), x -> x.pass(31)), REMEDY_OVER);
        at("lead, h", 'h', 1, () -> after(decidedPair(1), x -> x.heed(1)), "heads remedy");
        at("lead, i", 'i', 1, StatesTest::ignoredPair, "heads remedy");
    }

    private static void at(String name, char state, int complaint, Place place, String taken) {
        List<String> names = Arrays.asList(taken.split(" "));
        CHECK.is(name + ": stands so", place.reached().state(complaint), state);
        CHECK.is(name + ": is sound", place.reached().isSound(), true);
        boolean late = name.contains("overdue") || name.contains("silent");
        CHECK.is(name + ": overdue", place.reached().isOverdue(complaint), late && state == 'a');
        Calls.ALWAYS_ANSWERED.forEach((call, act) -> takes(name + ": " + call, place, act, complaint));
        each(Calls.CHANGES, name, names, complaint, place, Check.NOT_SO);
        each(Calls.FINDINGS, name, names, complaint, place, Check.NONE);
    }

    private static void each(Map<String, Calls.Call> calls, String name, List<String> taken, int complaint, Place place,
            Class<? extends RuntimeException> due) {
        calls.forEach((call, act) -> {
            if (taken.contains(call)) {
                takes(name + ": " + call, place, act, complaint);
            } else {
                GrievanceOmbud x = place.reached();
                CHECK.fails(name + ": " + call, x, due, () -> act.on(x, complaint, OTHER));
            }
        });
    }

    private static void takes(String what, Place place, Calls.Call act, int complaint) {
        GrievanceOmbud x = place.reached();
        String got = "nothing";
        try {
            act.on(x, complaint, OTHER);
        } catch (RuntimeException e) {
            got = e.getClass().getName();
        }
        CHECK.is(what + " throws", got, "nothing");
        CHECK.is(what + " leaves all sound", x.isSound(), true);
    }

    // ---- places

    private interface Step {
        void on(GrievanceOmbud x);
    }

    private static GrievanceOmbud after(GrievanceOmbud x, Step... steps) {
        for (Step step : steps) {
            step.on(x);
        }
        return x;
    }

    private static GrievanceOmbud scene() {
        return Scene.received(5, 3);
    }

    private static GrievanceOmbud told() {
        return after(scene(), x -> x.complain(0, 0, 0, 0));
    }

    /** Just reminded of so many times: not overdue any more. */
    private static GrievanceOmbud reminded(int times) {
        GrievanceOmbud x = after(scene(), y -> y.ask(0), y -> y.pass(6));
        x.remind(0);
        for (int i = 1; i < times; i++) {
            x.pass(8);
            x.remind(0);
        }
        return x;
    }

    private static GrievanceOmbud found() {
        return after(scene(), x -> x.ask(0), x -> x.answer(0), x -> x.find(0, 1));
    }

    private static GrievanceOmbud followedUp() {
        return after(found(), x -> x.pass(31), x -> x.followUp(0));
    }

    private static GrievanceOmbud silentPair() {
        GrievanceOmbud x = after(scene(), y -> y.join(0, 1), y -> y.ask(1));
        for (int i = 0; i < 3; i++) {
            x.pass(8);
            x.remind(1);
        }
        return x;
    }

    private static GrievanceOmbud decidedPair(int heads) {
        return after(scene(), x -> x.join(0, 1), x -> x.ask(1), x -> x.answer(1), x -> x.find(1, heads));
    }

    private static GrievanceOmbud ignoredPair() {
        return after(decidedPair(1), x -> x.pass(31), x -> x.followUp(1), x -> x.pass(61), x -> x.followUp(1));
    }
}
