import java.util.ArrayList;
import java.util.Collections;
import java.util.HashMap;
import java.util.List;
import java.util.Map;
import java.util.NoSuchElementException;
import java.util.TreeSet;

/**
 * The document told a second time, as slowly as it reads: a joined complaint has no state of its own,
 * and each complaint writes down every single day that is left out for it.
 */
final class PlainOmbud {
    private static final class Case {
        int office;
        int matter;
        int person;
        int happened;
        int told;
        boolean court;
        boolean reason;
        Integer step;
        char own = 'n';
        Case lead;
        Integer closed;
        TreeSet<Integer> leftOut = new TreeSet<>();
        int due;
        boolean extended;
        int reminders;
        boolean silence;
        Integer found;
        List<Integer> remedies = new ArrayList<>();
        int heedBy;
        Boolean accepted;
    }

    private static final class Telling {
        final int office;
        final Case of;
        boolean heeded;

        Telling(int office, Case of) {
            this.office = office;
            this.of = of;
        }
    }

    private final List<int[]> offices = new ArrayList<>();
    private final List<Case> cases = new ArrayList<>();
    private final List<Telling> tellings = new ArrayList<>();
    private final Map<Integer, Integer> weights = new HashMap<>();
    private int now;

    int addOffice(int days, int matters) {
        range(days, 1, 60);
        range(matters, 0, 1023);
        full(offices.size() == 6);
        offices.add(new int[] {days, matters});
        return offices.size() - 1;
    }

    int pass(int days) {
        range(days, 1, 400);
        full(now + days > 9999);
        for (int i = 0; i < days; i++) {
            for (Case one : cases) {
                if (standing(one) == 'a') {
                    one.leftOut.add(now);
                }
            }
            now++;
        }
        return now;
    }

    int today() {
        return now;
    }

    int complain(int office, int matter, int person, int happened) {
        index(office, offices.size());
        range(matter, 0, 9);
        range(person, 0, 49);
        range(happened, 0, now);
        full(cases.size() == 20);
        Case one = new Case();
        one.office = office;
        one.matter = matter;
        one.person = person;
        one.happened = happened;
        one.told = now;
        cases.add(one);
        return cases.size() - 1;
    }

    boolean setCourt(int complaint, boolean has) {
        Case one = at(complaint);
        allowed(isIn(one, "nf"));
        boolean had = one.court;
        one.court = has;
        return had;
    }

    boolean excuse(int complaint) {
        Case one = at(complaint);
        allowed(isIn(one, "nf"));
        boolean had = one.reason;
        one.reason = true;
        return had;
    }

    int takeStep(int complaint) {
        Case one = at(complaint);
        allowed(isIn(one, "nf") && one.step == null);
        one.step = now;
        return now + offices.get(one.office)[0];
    }

    char examine(int complaint) {
        Case one = at(complaint);
        allowed(isIn(one, "nf"));
        int[] office = offices.get(one.office);
        boolean within = (office[1] & 1 << one.matter) != 0;
        if (!within || one.court) {
            close(one, 'o');
        } else if (one.told > one.happened + 365 && !one.reason) {
            close(one, 'l');
        } else {
            one.own = one.step == null || one.step + office[0] > now ? 'f' : 'r';
        }
        return one.own;
    }

    char state(int complaint) {
        return standing(at(complaint));
    }

    int countState(char state) {
        if ("nfrasdoluhiw".indexOf(state) < 0) {
            throw new IllegalArgumentException();
        }
        return (int) cases.stream().filter(one -> standing(one) == state).count();
    }

    int countOf(int person) {
        range(person, 0, 49);
        return (int) cases.stream().filter(one -> one.person == person).count();
    }

    int ask(int complaint) {
        Case one = at(complaint);
        allowed(one.lead == null && one.own == 'r');
        one.own = 'a';
        one.due = now + offices.get(one.office)[0];
        return one.due;
    }

    int extend(int complaint, int days) {
        Case one = at(complaint);
        range(days, 1, 30);
        allowed(one.lead == null && one.own == 'a' && now <= one.due && !one.extended);
        one.extended = true;
        one.due += days;
        return one.due;
    }

    int remind(int complaint) {
        Case one = at(complaint);
        allowed(one.lead == null && one.own == 'a' && now > one.due && one.reminders < 3);
        one.due = now + 7;
        return ++one.reminders;
    }

    int answer(int complaint) {
        Case one = at(complaint);
        allowed(one.lead == null && one.own == 'a');
        one.own = 's';
        return now > one.due ? now - one.due : 0;
    }

    int takeSilence(int complaint) {
        Case one = at(complaint);
        allowed(one.lead == null && one.own == 'a' && now > one.due && one.reminders == 3);
        one.own = 's';
        one.silence = true;
        return 1 + behind(one).size();
    }

    boolean isOverdue(int complaint) {
        Case head = head(at(complaint));
        return head.own == 'a' && now > head.due;
    }

    int nextDue() {
        TreeSet<Integer> days = new TreeSet<>();
        for (Case one : cases) {
            if (one.lead == null && one.own == 'a') {
                days.add(one.due);
            }
            if (one.lead == null && one.own == 'd') {
                days.add(one.heedBy);
            }
        }
        Integer next = days.ceiling(now);
        present(next != null);
        return next;
    }

    int join(int complaint, int lead) {
        Case one = at(complaint);
        Case ahead = at(lead);
        if (complaint == lead) {
            throw new IllegalArgumentException();
        }
        allowed(one.lead == null && one.own == 'r' && behind(one).isEmpty());
        allowed(ahead.lead == null && isIn(ahead, "ras"));
        allowed(one.office == ahead.office && one.matter == ahead.matter);
        one.lead = ahead;
        return behind(ahead).size();
    }

    int part(int complaint) {
        Case one = at(complaint);
        allowed(one.lead != null && one.lead.found == null);
        int lead = cases.indexOf(one.lead);
        one.lead = null;
        return lead;
    }

    int lead(int complaint) {
        return cases.indexOf(head(at(complaint)));
    }

    int countJoined(int complaint) {
        return behind(at(complaint)).size();
    }

    int setWeight(int head, int weight) {
        range(head, 0, 4);
        range(weight, 1, 9);
        Integer before = weights.put(head, weight);
        return before == null ? 1 : before;
    }

    int find(int complaint, int heads) {
        Case one = at(complaint);
        range(heads, 0, 31);
        allowed(one.lead == null && one.own == 's');
        one.found = one.silence ? heads | 1 : heads;
        if (one.found == 0) {
            close(one, 'u');
            return 0;
        }
        int sum = Math.min(5, behind(one).size());
        for (int head = 0; head < 5; head++) {
            sum += (one.found & 1 << head) == 0 ? 0 : weights.getOrDefault(head, 1);
        }
        one.own = 'd';
        recommend(one, sum > 15 ? 4 : sum > 9 ? 3 : sum > 3 ? 2 : 1);
        tellings.add(new Telling(one.office, one));
        behind(one).forEach(joined -> tellings.add(new Telling(one.office, one)));
        return one.remedies.get(0);
    }

    int heads(int complaint) {
        Case head = head(at(complaint));
        present(head.found != null);
        return head.found;
    }

    int remedy(int complaint) {
        Case head = head(at(complaint));
        present(!head.remedies.isEmpty());
        return head.remedies.get(head.remedies.size() - 1);
    }

    int accept(int complaint, boolean is) {
        Case one = at(complaint);
        allowed(one.lead == null && one.own == 'd' && one.accepted == null);
        one.accepted = is;
        return one.heedBy;
    }

    boolean isAccepted(int complaint) {
        Case head = head(at(complaint));
        present(head.accepted != null);
        return head.accepted;
    }

    int heed(int complaint) {
        Case one = at(complaint);
        allowed(one.lead == null && one.own == 'd' && now <= one.heedBy);
        close(one, 'h');
        tellings.stream().filter(telling -> telling.of == one).forEach(telling -> telling.heeded = true);
        return one.heedBy - now;
    }

    int followUp(int complaint) {
        Case one = at(complaint);
        allowed(one.lead == null && one.own == 'd' && now > one.heedBy);
        if (one.remedies.size() == 2) {
            close(one, 'i');
            return 0;
        }
        recommend(one, Math.min(4, one.remedies.get(0) + 1));
        return one.remedies.get(1);
    }

    int withdraw(int complaint) {
        Case one = at(complaint);
        allowed(one.lead == null && !isIn(one, "oluhiw"));
        List<Case> freed = behind(one);
        freed.forEach(joined -> joined.lead = null);
        close(one, 'w');
        return freed.size();
    }

    int days(int complaint) {
        return daysOf(at(complaint));
    }

    float heededShare(int office) {
        index(office, offices.size());
        long told = tellings.stream().filter(telling -> telling.office == office).count();
        long heeded = tellings.stream().filter(telling -> telling.office == office && telling.heeded).count();
        divisible(told != 0);
        return (float) heeded / (float) told;
    }

    double meanDays() {
        int[] all = cases.stream().filter(one -> isIn(one, "oluhiw")).mapToInt(this::daysOf).toArray();
        divisible(all.length != 0);
        int sum = 0;
        for (int days : all) {
            sum += days;
        }
        return (double) sum / (double) all.length;
    }

    long checksum() {
        long sum = 7;
        for (Case one : cases) {
            sum = sum * 31 + standing(one);
            sum = sum * 31 + daysOf(one);
        }
        return sum * 31 + now;
    }

    boolean isSound() {
        return true;
    }

    private int daysOf(Case one) {
        Integer closed = head(one).closed;
        int days = 0;
        for (int day = one.told; day < (closed == null ? now : closed); day++) {
            days += one.leftOut.contains(day) ? 0 : 1;
        }
        return days;
    }

    private void recommend(Case one, int remedy) {
        one.remedies.add(remedy);
        one.heedBy = now + 30 * remedy;
        one.accepted = null;
    }

    private void close(Case one, char state) {
        one.own = state;
        one.closed = now;
    }

    private Case head(Case one) {
        return one.lead == null ? one : one.lead;
    }

    private char standing(Case one) {
        return head(one).own;
    }

    private boolean isIn(Case one, String states) {
        return states.indexOf(standing(one)) >= 0;
    }

    private List<Case> behind(Case ahead) {
        List<Case> joined = new ArrayList<>(cases);
        joined.removeIf(one -> one.lead != ahead);
        return Collections.unmodifiableList(joined);
    }

    private Case at(int complaint) {
        index(complaint, cases.size());
        return cases.get(complaint);
    }

    private static void index(int number, int size) {
        if (number < 0 || number >= size) {
            throw new IndexOutOfBoundsException();
        }
    }

    private static void range(int number, int least, int most) {
        if (number < least || number > most) {
            throw new IllegalArgumentException();
        }
    }

    private static void full(boolean is) {
        if (is) {
            throw new IllegalStateException();
        }
    }

    private static void allowed(boolean is) {
        if (!is) {
            throw new UnsupportedOperationException();
        }
    }

    private static void present(boolean is) {
        if (!is) {
            throw new NoSuchElementException();
        }
    }

    private static void divisible(boolean is) {
        if (!is) {
            throw new ArithmeticException();
        }
    }
}
