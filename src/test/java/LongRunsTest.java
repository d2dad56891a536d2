import java.util.HashMap;
import java.util.Map;
import java.util.TreeMap;
import java.util.function.Supplier;

/** Long runs of calls, up to the 512th of each object, all compared with PlainOmbud's answers. */
public final class LongRunsTest {
    private static final int RUNS = 1500;
    private static final int CALLS = 512;
    private static final int[] WRONG = {-1, 20, Integer.MIN_VALUE, Integer.MAX_VALUE, 6, 50, 10, 32, 1024, 10000};
    private static final Check CHECK = new Check("LongRunsTest");

    private final GrievanceOmbud x = new GrievanceOmbud();
    private final PlainOmbud plain = new PlainOmbud();
    private final int run;
    private final StringBuilder told = new StringBuilder();
    private final Map<String, Integer> answers;
    private long seed;
    private int complaints;
    private int calls;
    private boolean same = true;

    private LongRunsTest(int run, Map<String, Integer> answers) {
        this.run = run;
        this.answers = answers;
        seed = 88172645463325252L + run * 2654435761L;
    }

    public static void main(String[] args) {
        Map<String, Integer> answers = new HashMap<>();
        for (int run = 0; run < RUNS; run++) {
            new LongRunsTest(run, answers).play();
        }
        for (char state : "nfrasdoluhiw".toCharArray()) {
            CHECK.is("a complaint stood as " + state, answers.containsKey("state " + (int) state), true);
        }
        String[] calls = {"join", "part", "takeSilence", "extend", "remind", "followUp", "heed", "accept",
            "withdraw", "isAccepted", "heededShare", "meanDays", "find", "excuse", "setCourt"};
        for (String call : calls) {
            CHECK.is("answered and refused: " + call, hits(answers, call + " ") > 0
                    && hits(answers, call + " throws") > 0, true);
        }
        if (args.length > 1) {
            new TreeMap<>(answers).forEach((answer, times) -> System.out.println(answer + ": " + times));
        }
        CHECK.end();
    }

    private static int hits(Map<String, Integer> answers, String start) {
        int sum = 0;
        for (Map.Entry<String, Integer> entry : answers.entrySet()) {
            if (entry.getKey().startsWith(start)) {
                sum += entry.getValue();
            }
        }
        return sum;
    }

    private void play() {
        int offices = 1 + below(3);
        for (int i = 0; i < offices; i++) {
            int days = 1 + below(run % 2 == 0 ? 5 : 60);
            int matters = below(8) == 0 ? below(1024) : 1023;
            both("addOffice", () -> x.addOffice(days, matters), () -> plain.addOffice(days, matters));
        }
        // A step may make no call; the constant bound on steps keeps the loop from running on.
        for (int i = 0; i < 10 * CALLS && calls < CALLS - 1 && same; i++) {
            step();
        }
        both("isSound", x::isSound, plain::isSound);
        CHECK.is("run " + run + (same ? "" : ": " + told), same, true);
    }

    private void step() {
        switch (below(12)) {
            case 0:
                offices();
                break;
            case 1:
            case 2:
                intake();
                break;
            case 3:
            case 4:
                asking();
                break;
            case 5:
            case 6:
                joining();
                break;
            case 7:
            case 8:
                findings();
                break;
            case 9:
                reading();
                break;
            case 10:
                figures();
                break;
            default:
                days();
                break;
        }
    }

    private void days() {
        int days = maybeWrong(below(6) == 0 ? 1 + below(run % 3 == 0 ? 400 : 60) : 1 + below(8));
        both("pass", () -> x.pass(days), () -> plain.pass(days));
    }

    private void offices() {
        if (below(12) == 0) {
            int days = maybeWrong(1 + below(60));
            int matters = maybeWrong(below(1024));
            both("addOffice", () -> x.addOffice(days, matters), () -> plain.addOffice(days, matters));
        } else {
            int office = maybeWrong(below(4) == 0 ? 1 : 0);
            int matter = maybeWrong(below(8) == 0 ? below(10) : 3);
            int person = maybeWrong(below(50));
            int day = plain.today();
            int happened = maybeWrong(Math.max(0, day - (below(4) == 0 ? 363 + below(6) : below(20))));
            both("complain", () -> x.complain(office, matter, person, happened),
                    () -> {
                        int number = plain.complain(office, matter, person, happened);
                        complaints = number + 1;
                        return number;
                    });
        }
    }

    private void intake() {
        int complaint = complaint("nf");
        switch (below(8)) {
            case 0:
                boolean has = below(12) == 0;
                both("setCourt", () -> x.setCourt(complaint, has), () -> plain.setCourt(complaint, has));
                break;
            case 1:
                both("excuse", () -> x.excuse(complaint), () -> plain.excuse(complaint));
                break;
            case 2:
            case 3:
            case 4:
                both("takeStep", () -> x.takeStep(complaint), () -> plain.takeStep(complaint));
                break;
            default:
                both("examine", () -> x.examine(complaint), () -> plain.examine(complaint));
                break;
        }
    }

    private void asking() {
        int kind = below(8);
        int complaint = complaint(kind > 5 ? "r" : "a");
        switch (kind) {
            case 0:
                int days = maybeWrong(1 + below(30));
                both("extend", () -> x.extend(complaint, days), () -> plain.extend(complaint, days));
                break;
            case 1:
            case 2:
                both("remind", () -> x.remind(complaint), () -> plain.remind(complaint));
                break;
            case 3:
                both("answer", () -> x.answer(complaint), () -> plain.answer(complaint));
                break;
            case 4:
            case 5:
                both("takeSilence", () -> x.takeSilence(complaint), () -> plain.takeSilence(complaint));
                break;
            default:
                both("ask", () -> x.ask(complaint), () -> plain.ask(complaint));
                break;
        }
    }

    private void joining() {
        if (below(8) == 0) {
            int complaint = joinedOne();
            both("part", () -> x.part(complaint), () -> plain.part(complaint));
        } else {
            int complaint = complaint("r");
            int lead = complaint("ras");
            both("join", () -> x.join(complaint, lead), () -> plain.join(complaint, lead));
        }
    }

    private void findings() {
        int kind = below(9);
        int complaint = complaint(kind < 4 ? "s" : kind == 6 ? (below(9) == 0 ? "nf" : "rasd") : "d");
        switch (kind) {
            case 0:
                int head = maybeWrong(below(5));
                int weight = maybeWrong(1 + below(9));
                both("setWeight", () -> x.setWeight(head, weight), () -> plain.setWeight(head, weight));
                break;
            case 1:
            case 2:
            case 3:
                int heads = maybeWrong(below(6) == 0 ? 0 : below(2) == 0 ? 1 << below(5) : below(32));
                both("find", () -> x.find(complaint, heads), () -> plain.find(complaint, heads));
                break;
            case 4:
                boolean is = below(2) == 0;
                both("accept", () -> x.accept(complaint, is), () -> plain.accept(complaint, is));
                break;
            case 5:
                if (below(2) == 0) {
                    both("heed", () -> x.heed(complaint), () -> plain.heed(complaint));
                }
                break;
            case 6:
                if (below(5) == 0) {
                    both("withdraw", () -> x.withdraw(complaint), () -> plain.withdraw(complaint));
                }
                break;
            default:
                both("followUp", () -> x.followUp(complaint), () -> plain.followUp(complaint));
                break;
        }
    }

    private void reading() {
        int complaint = complaint();
        switch (below(8)) {
            case 0:
                both("isOverdue", () -> x.isOverdue(complaint), () -> plain.isOverdue(complaint));
                break;
            case 1:
                both("lead", () -> x.lead(complaint), () -> plain.lead(complaint));
                break;
            case 2:
                both("countJoined", () -> x.countJoined(complaint), () -> plain.countJoined(complaint));
                break;
            case 3:
                both("heads", () -> x.heads(complaint), () -> plain.heads(complaint));
                break;
            case 4:
                both("remedy", () -> x.remedy(complaint), () -> plain.remedy(complaint));
                break;
            case 5:
                both("isAccepted", () -> x.isAccepted(complaint), () -> plain.isAccepted(complaint));
                break;
            case 6:
                both("days", () -> x.days(complaint), () -> plain.days(complaint));
                break;
            default:
                both("state", () -> (int) x.state(complaint), () -> (int) plain.state(complaint));
                break;
        }
    }

    private void figures() {
        switch (below(8)) {
            case 0:
                both("nextDue", x::nextDue, plain::nextDue);
                break;
            case 1:
                int office = maybeWrong(below(2));
                both("heededShare", () -> x.heededShare(office), () -> plain.heededShare(office));
                break;
            case 2:
                both("meanDays", x::meanDays, plain::meanDays);
                break;
            case 3:
                char state = "nfrasdoluhiwxN".charAt(below(14));
                both("countState", () -> x.countState(state), () -> plain.countState(state));
                break;
            case 4:
                int person = maybeWrong(below(50));
                both("countOf", () -> x.countOf(person), () -> plain.countOf(person));
                break;
            case 5:
                both("isSound", x::isSound, plain::isSound);
                break;
            case 6:
                both("today", x::today, plain::today);
                break;
            default:
                both("checksum", x::checksum, plain::checksum);
                break;
        }
    }

    private int complaint() {
        return maybeWrong(complaints == 0 ? 0 : below(complaints));
    }

    /** Mostly one that stands so and leads itself, since few calls would be answered otherwise. */
    private int complaint(String states) {
        for (int i = 0; i < 30 && complaints > 0 && below(8) != 0; i++) {
            int one = below(complaints);
            if (states.indexOf(plain.state(one)) >= 0 && plain.lead(one) == one) {
                return one;
            }
        }
        return complaint();
    }

    private int joinedOne() {
        for (int i = 0; i < 30 && complaints > 0 && below(8) != 0; i++) {
            int one = below(complaints);
            if (plain.lead(one) != one) {
                return one;
            }
        }
        return complaint();
    }

    private int maybeWrong(int number) {
        return below(50) == 0 ? WRONG[below(WRONG.length)] : number;
    }

    private void both(String call, Supplier<Object> of, Supplier<Object> due) {
        if (!same) {
            return;
        }
        calls++;
        String got = outcome(of);
        String wanted = outcome(due);
        told.append(' ').append(call).append('=').append(wanted);
        same = got.equals(wanted);
        if (!same) {
            told.append(" but got ").append(got);
        }
        boolean named = wanted.startsWith("throws") || call.equals("state");
        answers.merge(call + " " + (named ? wanted : "answers"), 1, Integer::sum);
    }

    private static String outcome(Supplier<Object> call) {
        try {
            return String.valueOf(call.get());
        } catch (RuntimeException e) {
            return "throws " + e.getClass().getName();
        }
    }

    /** The same numbers in each run of the tests: a generator of 64 bits by shifts. */
    private int below(int bound) {
        seed ^= seed << 13;
        seed ^= seed >>> 7;
        seed ^= seed << 17;
        return (int) Long.remainderUnsigned(seed >>> 11, bound);
    }
}
