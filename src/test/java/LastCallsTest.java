import java.util.function.Function;

/**
 * "An object is used for at most 512 calls after it has been made": the 512th call of an object answers as it would
 * have done early, whatever the calls before were. Each of the promises 2 to 37 has its call as the last one here.
 */
public final class LastCallsTest {
    private static final int CALLS = 512;
    private static final Check CHECK = new Check("LastCallsTest");

    private interface Step {
        void on(GrievanceOmbud x);
    }

    /** One call each: two complaints of one office, received on the day 5. */
    private static final Step[] RECEIVED = {x -> x.addOffice(5, 1), x -> x.complain(0, 0, 0, 0),
        x -> x.complain(0, 0, 1, 0), x -> x.takeStep(0), x -> x.takeStep(1), x -> x.pass(5), x -> x.examine(0),
        x -> x.examine(1)};
    private static final Step[] JOINED = after(RECEIVED, x -> x.join(1, 0));
    private static final Step[] ASKED = after(JOINED, x -> x.ask(0));
    private static final Step[] OVERDUE = after(ASKED, x -> x.pass(6));
    private static final Step[] SILENT = after(OVERDUE, x -> x.remind(0), x -> x.pass(8), x -> x.remind(0),
            x -> x.pass(8), x -> x.remind(0), x -> x.pass(8));
    private static final Step[] STUDIED = after(ASKED, x -> x.answer(0));
    private static final Step[] DECIDED = after(STUDIED, x -> x.find(0, 2));
    private static final Step[] OVER = after(DECIDED, x -> x.pass(31));
    private static final Step[] HEEDED = after(DECIDED, x -> x.accept(0, true), x -> x.pass(3), x -> x.heed(0));

    public static void main(String[] args) {
        offices();
        intake();
        asking();
        joining();
        findings();
        heeding();
        figures();
        refused();
        soundAllTheWhile();
        CHECK.end();
    }

    private static void offices() {
        Step[] none = {};
        last("addOffice", none, x -> x.addOffice(60, 1023), 0);
        last("addOffice, the sixth", new Step[] {x -> x.addOffice(1, 1), x -> x.addOffice(1, 1),
            x -> x.addOffice(1, 1), x -> x.addOffice(1, 1), x -> x.addOffice(1, 1)}, x -> x.addOffice(60, 1023), 5);
        last("pass", none, x -> x.pass(400), 400);
        last("today", OVERDUE, x -> x.today(), 11);
        last("complain", RECEIVED, x -> x.complain(0, 0, 49, 5), 2);
    }

    private static void intake() {
        Step[] told = after(RECEIVED, x -> x.complain(0, 0, 49, 5));
        last("setCourt", told, x -> x.setCourt(2, true), false);
        last("setCourt, not any more", after(told, x -> x.setCourt(2, true)), x -> x.setCourt(2, false), true);
        last("excuse", told, x -> x.excuse(2), false);
        last("excuse, told before", after(told, x -> x.excuse(2)), x -> x.excuse(2), true);
        last("takeStep", told, x -> x.takeStep(2), 10);
        last("examine, first step lacking", told, x -> x.examine(2), 'f');
        last("examine, received", after(told, x -> x.takeStep(2), x -> x.pass(5)), x -> x.examine(2), 'r');
        last("examine, outside", after(told, x -> x.setCourt(2, true)), x -> x.examine(2), 'o');
        last("state", SILENT, x -> x.state(1), 'a');
        last("countState", STUDIED, x -> x.countState('s'), 2);
        last("countOf", told, x -> x.countOf(49), 1);
    }

    private static void asking() {
        last("ask", JOINED, x -> x.ask(0), 10);
        last("extend", ASKED, x -> x.extend(0, 30), 40);
        last("remind", OVERDUE, x -> x.remind(0), 1);
        last("answer", SILENT, x -> x.answer(0), 1);
        last("takeSilence", SILENT, x -> x.takeSilence(0), 2);
        last("isOverdue", OVERDUE, x -> x.isOverdue(1), true);
        last("nextDue", DECIDED, x -> x.nextDue(), 35);
    }

    private static void joining() {
        last("join", RECEIVED, x -> x.join(1, 0), 1);
        last("part", STUDIED, x -> x.part(1), 0);
        last("lead", STUDIED, x -> x.lead(1), 0);
        last("countJoined", STUDIED, x -> x.countJoined(0), 1);
    }

    private static void findings() {
        last("setWeight", RECEIVED, x -> x.setWeight(0, 9), 1);
        last("setWeight, of another head", after(RECEIVED, x -> x.setWeight(4, 9)), x -> x.setWeight(4, 1), 9);
        last("find", STUDIED, x -> x.find(0, 31), 2);
        last("find, none", STUDIED, x -> x.find(0, 0), 0);
        last("find, silence", after(SILENT, x -> x.takeSilence(0)), x -> x.find(0, 0), 1);
        last("heads", DECIDED, x -> x.heads(1), 2);
        last("remedy", DECIDED, x -> x.remedy(1), 1);
    }

    private static void heeding() {
        last("accept", DECIDED, x -> x.accept(0, true), 35);
        last("isAccepted", HEEDED, x -> x.isAccepted(1), true);
        last("heed", DECIDED, x -> x.heed(0), 30);
        last("followUp", OVER, x -> x.followUp(0), 2);
        last("followUp, ignored", after(OVER, x -> x.followUp(0), x -> x.pass(61)), x -> x.followUp(0), 0);
        last("withdraw", DECIDED, x -> x.withdraw(0), 1);
    }

    private static void figures() {
        last("days", SILENT, x -> x.days(1), 5);
        last("heededShare", HEEDED, x -> x.heededShare(0), 1f);
        last("meanDays", HEEDED, x -> x.meanDays(), 8.0);
        last("checksum", RECEIVED, x -> x.checksum(), ((((7L * 31 + 'r') * 31 + 5) * 31 + 'r') * 31 + 5) * 31 + 5);
        last("isSound", new Step[] {}, x -> x.isSound(), true);
        for (Step[] steps : new Step[][] {RECEIVED, JOINED, OVERDUE, SILENT, STUDIED, DECIDED, OVER, HEEDED}) {
            last("isSound behind " + steps.length, steps, x -> x.isSound(), true);
        }
    }

    /** A call that is refused is a call, too, and the 512th is refused as any other. */
    private static void refused() {
        lastFails("addOffice", RECEIVED, Check.RANGE, x -> x.addOffice(0, 0));
        lastFails("pass", RECEIVED, Check.RANGE, x -> x.pass(401));
        lastFails("state", RECEIVED, Check.NO_SUCH, x -> x.state(2));
        lastFails("part", DECIDED, Check.NOT_SO, x -> x.part(1));
        lastFails("nextDue", RECEIVED, Check.NONE, x -> x.nextDue());
        lastFails("meanDays", RECEIVED, Check.NONE_TO_DIVIDE_BY, x -> x.meanDays());
        lastFails("heededShare", STUDIED, Check.NONE_TO_DIVIDE_BY, x -> x.heededShare(0));
    }

    /** Sound behind each of the first calls, and told again just as often. */
    private static void soundAllTheWhile() {
        GrievanceOmbud x = new GrievanceOmbud();
        int calls = 0;
        for (Step step : SILENT) {
            step.on(x);
            CHECK.is("37: sound", x.isSound(), true);
            calls += 2;
        }
        for (; calls < CALLS; calls += 2) {
            x.setWeight(calls / 2 % 5, 1 + calls / 2 % 9);
            CHECK.is("37: sound behind " + calls, x.isSound(), true);
        }
    }

    private static Step[] after(Step[] steps, Step... more) {
        Step[] all = new Step[steps.length + more.length];
        System.arraycopy(steps, 0, all, 0, steps.length);
        System.arraycopy(more, 0, all, steps.length, more.length);
        return all;
    }

    private static void last(String name, Step[] steps, Function<GrievanceOmbud, Object> call, Object due) {
        CHECK.is(name + ", early", String.valueOf(call.apply(used(steps, null, 0))), String.valueOf(due));
        for (Filler filler : Filler.values()) {
            GrievanceOmbud first = used(steps, filler, CALLS - 1 - steps.length);
            CHECK.is(name + ", behind " + filler, String.valueOf(call.apply(first)), String.valueOf(due));
        }
    }

    private static void lastFails(String name, Step[] steps, Class<? extends RuntimeException> due, Step call) {
        for (Filler filler : Filler.values()) {
            GrievanceOmbud x = used(steps, filler, CALLS - 1 - steps.length);
            CHECK.fails(name + ", behind " + filler, x, due, () -> call.on(x));
        }
    }

    private static GrievanceOmbud used(Step[] steps, Filler filler, int times) {
        GrievanceOmbud x = new GrievanceOmbud();
        for (int i = 0; i < times; i++) {
            filler.call(x);
        }
        for (Step step : steps) {
            step.on(x);
        }
        return x;
    }

    /** Calls that leave all as it is: one that is told, one that is read, and one that is refused. */
    private enum Filler {
        TOLD, READ, REFUSED;

        void call(GrievanceOmbud x) {
            switch (this) {
                case TOLD:
                    x.setWeight(0, 1);
                    break;
                case READ:
                    x.isSound();
                    break;
                default:
                    try {
                        x.pass(0);
                    } catch (IllegalArgumentException e) {
                        break;
                    }
                    throw new IllegalStateException("pass(0) is not refused");
            }
        }
    }
}
