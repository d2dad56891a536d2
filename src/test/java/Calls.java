import java.util.LinkedHashMap;
import java.util.Map;

/** Every call of the face that takes a complaint's number, with the other numbers it takes within their ranges. */
final class Calls {
    /** The other complaint is the lead, or the one that is joined, where a call takes two. */
    interface Call {
        Object on(GrievanceOmbud x, int complaint, int other);
    }

    /** They tell what stands, and are refused for no reason but the number. */
    static final Map<String, Call> ALWAYS_ANSWERED = new LinkedHashMap<>();
    /** They tell what was found, if there is any. */
    static final Map<String, Call> FINDINGS = new LinkedHashMap<>();
    /** They change where a complaint stands, or what is told of it. */
    static final Map<String, Call> CHANGES = new LinkedHashMap<>();
    static final Map<String, Call> ALL = new LinkedHashMap<>();

    static {
        ALWAYS_ANSWERED.put("state", (x, complaint, other) -> x.state(complaint));
        ALWAYS_ANSWERED.put("isOverdue", (x, complaint, other) -> x.isOverdue(complaint));
        ALWAYS_ANSWERED.put("lead", (x, complaint, other) -> x.lead(complaint));
        ALWAYS_ANSWERED.put("countJoined", (x, complaint, other) -> x.countJoined(complaint));
        ALWAYS_ANSWERED.put("days", (x, complaint, other) -> x.days(complaint));
        FINDINGS.put("heads", (x, complaint, other) -> x.heads(complaint));
        FINDINGS.put("remedy", (x, complaint, other) -> x.remedy(complaint));
        FINDINGS.put("isAccepted", (x, complaint, other) -> x.isAccepted(complaint));
        CHANGES.put("setCourt", (x, complaint, other) -> x.setCourt(complaint, true));
        CHANGES.put("setCourtNot", (x, complaint, other) -> x.setCourt(complaint, false));
        CHANGES.put("excuse", (x, complaint, other) -> x.excuse(complaint));
        CHANGES.put("takeStep", (x, complaint, other) -> x.takeStep(complaint));
        CHANGES.put("examine", (x, complaint, other) -> x.examine(complaint));
        CHANGES.put("ask", (x, complaint, other) -> x.ask(complaint));
        CHANGES.put("extend", (x, complaint, other) -> x.extend(complaint, 1));
        CHANGES.put("remind", (x, complaint, other) -> x.remind(complaint));
        CHANGES.put("answer", (x, complaint, other) -> x.answer(complaint));
        CHANGES.put("takeSilence", (x, complaint, other) -> x.takeSilence(complaint));
        CHANGES.put("join", (x, complaint, other) -> x.join(complaint, other));
        CHANGES.put("joinTo", (x, complaint, other) -> x.join(other, complaint));
        CHANGES.put("part", (x, complaint, other) -> x.part(complaint));
        CHANGES.put("find", (x, complaint, other) -> x.find(complaint, 31));
        CHANGES.put("findNone", (x, complaint, other) -> x.find(complaint, 0));
        CHANGES.put("accept", (x, complaint, other) -> x.accept(complaint, true));
        CHANGES.put("acceptNot", (x, complaint, other) -> x.accept(complaint, false));
        CHANGES.put("heed", (x, complaint, other) -> x.heed(complaint));
        CHANGES.put("followUp", (x, complaint, other) -> x.followUp(complaint));
        CHANGES.put("withdraw", (x, complaint, other) -> x.withdraw(complaint));
        ALL.putAll(ALWAYS_ANSWERED);
        ALL.putAll(FINDINGS);
        ALL.putAll(CHANGES);
    }

    private Calls() {
    }
}
