import java.util.NoSuchElementException;

/** The office hour of one who may only recommend; ../shared/DOC.md says what each call promises. */
public final class GrievanceOmbud {
    private static final int OFFICE_LIMIT = 6;
    private static final int COMPLAINT_LIMIT = 20;
    private static final int EVENT_LIMIT = 512;
    private static final int ANSWER_DAYS_LIMIT = 60;
    private static final int MATTER_COUNT = 10;
    private static final int MATTER_BITS_LIMIT = 1023;
    private static final int PERSON_COUNT = 50;
    private static final int PASS_LIMIT = 400;
    private static final int LAST_DAY = 9999;
    private static final int LATE_BEHIND = 365;
    private static final int EXTENSION_LIMIT = 30;
    private static final int REMINDER_LIMIT = 3;
    private static final int REMINDER_DAYS = 7;
    private static final int HEAD_COUNT = 5;
    private static final int HEAD_BITS_LIMIT = 31;
    private static final int WEIGHT_LIMIT = 9;
    private static final int SILENCE_HEADS = 1;
    private static final int JOINED_SUM_LIMIT = 5;
    private static final int REMEDY_LIMIT = 4;
    private static final int REMEDY_STEP_DAYS = 30;
    private static final int NONE = -1;

    private static final char NEW = 'n';
    private static final char STEP_LACKS = 'f';
    private static final char RECEIVED = 'r';
    private static final char ASKED = 'a';
    private static final char STUDIED = 's';
    private static final char DECIDED = 'd';
    private static final char OUTSIDE = 'o';
    private static final char LATE = 'l';
    private static final char UNFOUNDED = 'u';
    private static final char HEEDED = 'h';
    private static final char IGNORED = 'i';
    private static final char WITHDRAWN = 'w';
    private static final String ALL_STATES = "nfrasdoluhiw";
    private static final String CLOSED_STATES = "oluhiw";

    private static final int OFFICE_ADDED = 1;
    private static final int DAYS_PASSED = 2;
    private static final int WEIGHT_SET = 3;
    private static final int COMPLAINED = 4;
    private static final int COURT_SET = 5;
    private static final int EXCUSED = 6;
    private static final int STEP_TAKEN = 7;
    private static final int EXAMINED = 8;
    private static final int OFFICE_ASKED = 9;
    private static final int TIME_EXTENDED = 10;
    private static final int OFFICE_REMINDED = 11;
    private static final int OFFICE_ANSWERED = 12;
    private static final int SILENCE_TAKEN = 13;
    private static final int JOINED = 14;
    private static final int PARTED = 15;
    private static final int FOUND = 16;
    private static final int ACCEPTANCE_TOLD = 17;
    private static final int REMEDY_HEEDED = 18;
    private static final int FOLLOWED_UP = 19;
    private static final int TAKEN_BACK = 20;

    private final Book book = new Book();
    private final Book retold = new Book();
    private final Events events = new Events();

    public GrievanceOmbud() {
    }

    // ---- offices and complaints

    public int addOffice(int days, int matters) throws IllegalArgumentException, IllegalStateException {
        requireRange(days, 1, ANSWER_DAYS_LIMIT);
        requireRange(matters, 0, MATTER_BITS_LIMIT);
        if (book.officeCount >= OFFICE_LIMIT) {
            throw new IllegalStateException("there are 6 offices");
        }
        return happen(OFFICE_ADDED, days, matters);
    }

    public int pass(int days) throws IllegalArgumentException, IllegalStateException {
        requireRange(days, 1, PASS_LIMIT);
        if (book.day + days > LAST_DAY) {
            throw new IllegalStateException("the day would be above 9999");
        }
        return happen(DAYS_PASSED, days, 0);
    }

    public int today() {
        return book.day;
    }

    public int complain(int office, int matter, int person, int happened)
            throws IndexOutOfBoundsException, IllegalArgumentException, IllegalStateException {
        requireOffice(office);
        requireRange(matter, 0, MATTER_COUNT - 1);
        requireRange(person, 0, PERSON_COUNT - 1);
        requireRange(happened, 0, book.day);
        if (book.complaintCount >= COMPLAINT_LIMIT) {
            throw new IllegalStateException("there are 20 complaints");
        }
        events.keep(COMPLAINED, office, matter, person, happened);
        return book.apply(COMPLAINED, office, matter, person, happened);
    }

    public boolean setCourt(int complaint, boolean has)
            throws IndexOutOfBoundsException, UnsupportedOperationException {
        requireAtIntake(known(complaint));
        return happen(COURT_SET, complaint, has ? 1 : 0) == 1;
    }

    public boolean excuse(int complaint) throws IndexOutOfBoundsException, UnsupportedOperationException {
        requireAtIntake(known(complaint));
        return happen(EXCUSED, complaint, 0) == 1;
    }

    public int takeStep(int complaint) throws IndexOutOfBoundsException, UnsupportedOperationException {
        Complaint one = known(complaint);
        requireAtIntake(one);
        if (one.stepDay != NONE) {
            throw new UnsupportedOperationException("the first step was told");
        }
        return happen(STEP_TAKEN, complaint, 0);
    }

    public char examine(int complaint) throws IndexOutOfBoundsException, UnsupportedOperationException {
        requireAtIntake(known(complaint));
        return (char) happen(EXAMINED, complaint, 0);
    }

    public char state(int complaint) throws IndexOutOfBoundsException {
        return known(complaint).state;
    }

    public int countState(char state) throws IllegalArgumentException {
        if (ALL_STATES.indexOf(state) < 0) {
            throw new IllegalArgumentException("there is no such state");
        }
        return book.countStanding(state);
    }

    public int countOf(int person) throws IllegalArgumentException {
        requireRange(person, 0, PERSON_COUNT - 1);
        return book.countTold(person);
    }

    // ---- asking

    public int ask(int complaint) throws IndexOutOfBoundsException, UnsupportedOperationException {
        requireOwn(known(complaint), RECEIVED);
        return happen(OFFICE_ASKED, complaint, 0);
    }

    public int extend(int complaint, int days)
            throws IndexOutOfBoundsException, IllegalArgumentException, UnsupportedOperationException {
        Complaint one = known(complaint);
        requireRange(days, 1, EXTENSION_LIMIT);
        requireOwn(one, ASKED);
        if (book.lacksAnswer(one) || one.inquiry.extended) {
            throw new UnsupportedOperationException("it is overdue or was extended");
        }
        return happen(TIME_EXTENDED, complaint, days);
    }

    public int remind(int complaint) throws IndexOutOfBoundsException, UnsupportedOperationException {
        Complaint one = known(complaint);
        requireOwn(one, ASKED);
        if (!book.lacksAnswer(one) || one.inquiry.reminders >= REMINDER_LIMIT) {
            throw new UnsupportedOperationException("it is not overdue or was reminded of three times");
        }
        return happen(OFFICE_REMINDED, complaint, 0);
    }

    public int answer(int complaint) throws IndexOutOfBoundsException, UnsupportedOperationException {
        requireOwn(known(complaint), ASKED);
        return happen(OFFICE_ANSWERED, complaint, 0);
    }

    public int takeSilence(int complaint) throws IndexOutOfBoundsException, UnsupportedOperationException {
        Complaint one = known(complaint);
        requireOwn(one, ASKED);
        if (!book.lacksAnswer(one) || one.inquiry.reminders < REMINDER_LIMIT) {
            throw new UnsupportedOperationException("it is not overdue behind three reminders");
        }
        return happen(SILENCE_TAKEN, complaint, 0);
    }

    public boolean isOverdue(int complaint) throws IndexOutOfBoundsException {
        return book.lacksAnswer(book.leadOf(known(complaint)));
    }

    public int nextDue() throws NoSuchElementException {
        int due = book.earliestDue();
        if (due == NONE) {
            throw new NoSuchElementException("nothing is due");
        }
        return due;
    }

    // ---- joining

    public int join(int complaint, int lead)
            throws IndexOutOfBoundsException, IllegalArgumentException, UnsupportedOperationException {
        Complaint one = known(complaint);
        Complaint ahead = known(lead);
        if (complaint == lead) {
            throw new IllegalArgumentException("both are the same");
        }
        if (!book.canFollow(one, ahead)) {
            throw new UnsupportedOperationException("it cannot be joined to that");
        }
        return happen(JOINED, complaint, lead);
    }

    public int part(int complaint) throws IndexOutOfBoundsException, UnsupportedOperationException {
        Complaint one = known(complaint);
        if (!one.isJoined() || book.leadOf(one).finding.isTold()) {
            throw new UnsupportedOperationException("it is not joined or there was a finding");
        }
        return happen(PARTED, complaint, 0);
    }

    public int lead(int complaint) throws IndexOutOfBoundsException {
        return known(complaint).lead;
    }

    public int countJoined(int complaint) throws IndexOutOfBoundsException {
        return book.followersOf(known(complaint));
    }

    // ---- findings and remedies

    public int setWeight(int head, int weight) throws IllegalArgumentException {
        requireRange(head, 0, HEAD_COUNT - 1);
        requireRange(weight, 1, WEIGHT_LIMIT);
        return happen(WEIGHT_SET, head, weight);
    }

    public int find(int complaint, int heads)
            throws IndexOutOfBoundsException, IllegalArgumentException, UnsupportedOperationException {
        Complaint one = known(complaint);
        requireRange(heads, 0, HEAD_BITS_LIMIT);
        requireOwn(one, STUDIED);
        return happen(FOUND, complaint, heads);
    }

    public int heads(int complaint) throws IndexOutOfBoundsException, NoSuchElementException {
        Finding finding = book.leadOf(known(complaint)).finding;
        if (!finding.isTold()) {
            throw new NoSuchElementException("there was no finding");
        }
        return finding.heads;
    }

    public int remedy(int complaint) throws IndexOutOfBoundsException, NoSuchElementException {
        Finding finding = book.leadOf(known(complaint)).finding;
        if (finding.remedy == 0) {
            throw new NoSuchElementException("there is no remedy");
        }
        return finding.remedy;
    }

    public int accept(int complaint, boolean is) throws IndexOutOfBoundsException, UnsupportedOperationException {
        Complaint one = known(complaint);
        requireOwn(one, DECIDED);
        if (one.finding.acceptanceTold) {
            throw new UnsupportedOperationException("that was told of this remedy");
        }
        return happen(ACCEPTANCE_TOLD, complaint, is ? 1 : 0);
    }

    public boolean isAccepted(int complaint) throws IndexOutOfBoundsException, NoSuchElementException {
        Finding finding = book.leadOf(known(complaint)).finding;
        if (!finding.acceptanceTold) {
            throw new NoSuchElementException("nothing was told of this remedy");
        }
        return finding.accepted;
    }

    public int heed(int complaint) throws IndexOutOfBoundsException, UnsupportedOperationException {
        Complaint one = known(complaint);
        requireOwn(one, DECIDED);
        if (book.day > one.finding.heedBy) {
            throw new UnsupportedOperationException("it is over its day");
        }
        return happen(REMEDY_HEEDED, complaint, 0);
    }

    public int followUp(int complaint) throws IndexOutOfBoundsException, UnsupportedOperationException {
        Complaint one = known(complaint);
        requireOwn(one, DECIDED);
        if (book.day <= one.finding.heedBy) {
            throw new UnsupportedOperationException("it is not over its day");
        }
        return happen(FOLLOWED_UP, complaint, 0);
    }

    public int withdraw(int complaint) throws IndexOutOfBoundsException, UnsupportedOperationException {
        Complaint one = known(complaint);
        if (one.isJoined() || isClosing(one.state)) {
            throw new UnsupportedOperationException("it is joined to another one or is closed");
        }
        return happen(TAKEN_BACK, complaint, 0);
    }

    // ---- figures

    public int days(int complaint) throws IndexOutOfBoundsException {
        return known(complaint).daysBy(book.day);
    }

    public float heededShare(int office) throws IndexOutOfBoundsException, ArithmeticException {
        requireOffice(office);
        Office one = book.offices[office];
        if (one.remediesTold == 0) {
            throw new ArithmeticException("no remedy was told");
        }
        return (float) one.remediesHeeded / (float) one.remediesTold;
    }

    public double meanDays() throws ArithmeticException {
        int closed = book.countClosed();
        if (closed == 0) {
            throw new ArithmeticException("no complaint is closed");
        }
        return (double) book.sumOfClosedDays() / (double) closed;
    }

    public long checksum() {
        long sum = 7;
        for (int i = 0; i < book.complaintCount; i++) {
            Complaint one = book.complaints[i];
            sum = 31 * sum + one.state;
            sum = 31 * sum + one.daysBy(book.day);
        }
        return 31 * sum + book.day;
    }

    public boolean isSound() {
        events.tellAgain(retold);
        return book.isOrderly() && book.matches(retold);
    }

    // ---- what the calls share

    private int happen(int kind, int first, int second) {
        events.keep(kind, first, second, 0, 0);
        return book.apply(kind, first, second, 0, 0);
    }

    private void requireRange(int number, int least, int most) {
        if (number < least || number > most) {
            throw new IllegalArgumentException("a number is out of range");
        }
    }

    private void requireOffice(int office) {
        if (office < 0 || office >= book.officeCount) {
            throw new IndexOutOfBoundsException("there is no such office");
        }
    }

    private Complaint known(int complaint) {
        if (complaint < 0 || complaint >= book.complaintCount) {
            throw new IndexOutOfBoundsException("there is no such complaint");
        }
        return book.complaints[complaint];
    }

    private void requireAtIntake(Complaint one) {
        if (one.state != NEW && one.state != STEP_LACKS) {
            throw new UnsupportedOperationException("it is neither new, nor lacks its first step");
        }
    }

    private void requireOwn(Complaint one, char state) {
        if (one.isJoined() || one.state != state) {
            throw new UnsupportedOperationException("it is joined to another one or does not stand so");
        }
    }

    private static boolean isClosing(char state) {
        return CLOSED_STATES.indexOf(state) >= 0;
    }

    private static int remedyFor(int sum) {
        if (sum <= 3) {
            return 1;
        }
        if (sum <= 9) {
            return 2;
        }
        return sum <= 15 ? 3 : REMEDY_LIMIT;
    }

    /** What a call changed, as rows of a kind and up to four numbers, so that all can be told again. */
    private static final class Events {
        private static final int ROW_LENGTH = 5;

        private final int[] rows = new int[EVENT_LIMIT * ROW_LENGTH];
        private int count;

        private void keep(int kind, int first, int second, int third, int fourth) {
            // An object is used for 512 calls, and a call is one event at most: what comes later is free.
            if (count >= EVENT_LIMIT) {
                return;
            }
            int at = count * ROW_LENGTH;
            rows[at] = kind;
            rows[at + 1] = first;
            rows[at + 2] = second;
            rows[at + 3] = third;
            rows[at + 4] = fourth;
            count++;
        }

        private void tellAgain(Book anew) {
            anew.open();
            for (int i = 0; i < count; i++) {
                int at = i * ROW_LENGTH;
                anew.apply(rows[at], rows[at + 1], rows[at + 2], rows[at + 3], rows[at + 4]);
            }
        }
    }

    private static final class Office {
        private int days;
        private int matters;
        private int remediesTold;
        private int remediesHeeded;

        private void begin(int answerDays, int matterBits) {
            days = answerDays;
            matters = matterBits;
            remediesTold = 0;
            remediesHeeded = 0;
        }

        private boolean matches(Office other) {
            return days == other.days && matters == other.matters
                    && remediesTold == other.remediesTold && remediesHeeded == other.remediesHeeded;
        }
    }

    /** What the office was asked about a complaint that leads; a joined one has that of its lead. */
    private static final class Inquiry {
        private int due;
        private boolean extended;
        private int reminders;
        private boolean silent;

        private void begin(int dueDay) {
            due = dueDay;
            extended = false;
            reminders = 0;
            silent = false;
        }

        private boolean matches(Inquiry other) {
            return due == other.due && extended == other.extended
                    && reminders == other.reminders && silent == other.silent;
        }
    }

    /** What was found about a complaint that leads; a joined one has that of its lead. */
    private static final class Finding {
        private int heads;
        private int remedy;
        private int heedBy;
        private boolean followed;
        private boolean acceptanceTold;
        private boolean accepted;

        private void begin(int headBits) {
            heads = headBits;
            remedy = 0;
            heedBy = NONE;
            followed = false;
            acceptanceTold = false;
            accepted = false;
        }

        private boolean isTold() {
            return heads != NONE;
        }

        private void recommend(int newRemedy, int day) {
            remedy = newRemedy;
            heedBy = day + REMEDY_STEP_DAYS * newRemedy;
            acceptanceTold = false;
            accepted = false;
        }

        private boolean matches(Finding other) {
            return heads == other.heads && remedy == other.remedy && heedBy == other.heedBy
                    && followed == other.followed && acceptanceTold == other.acceptanceTold
                    && accepted == other.accepted;
        }
    }

    private static final class Complaint {
        private final int number;
        private final Inquiry inquiry = new Inquiry();
        private final Finding finding = new Finding();
        private int office;
        private int matter;
        private int person;
        private int happened;
        private int toldDay;
        private boolean atCourt;
        private boolean excused;
        private int stepDay;
        private char state;
        private int lead;
        private int closedDay;
        private int pausedSince;
        private int pausedDays;

        private Complaint(int ownNumber) {
            number = ownNumber;
        }

        private void begin(int ofOffice, int ofMatter, int ofPerson, int happenedDay, int day) {
            office = ofOffice;
            matter = ofMatter;
            person = ofPerson;
            happened = happenedDay;
            toldDay = day;
            atCourt = false;
            excused = false;
            stepDay = NONE;
            state = NEW;
            lead = number;
            closedDay = NONE;
            pausedSince = NONE;
            pausedDays = 0;
            inquiry.begin(NONE);
            finding.begin(NONE);
        }

        private boolean isJoined() {
            return lead != number;
        }

        /** The one way to another state, so that the clock and the day of closing never lag behind it. */
        private void moveTo(char next, int day) {
            if (pausedSince != NONE) {
                pausedDays += day - pausedSince;
                pausedSince = NONE;
            }
            if (next == ASKED) {
                pausedSince = day;
            }
            if (CLOSED_STATES.indexOf(next) >= 0) {
                closedDay = day;
            }
            state = next;
        }

        private int daysBy(int day) {
            int end = closedDay == NONE ? day : closedDay;
            int running = pausedSince == NONE ? 0 : end - pausedSince;
            return end - toldDay - pausedDays - running;
        }

        private boolean matches(Complaint other) {
            return matchesAsTold(other) && state == other.state && lead == other.lead
                    && closedDay == other.closedDay && pausedSince == other.pausedSince
                    && pausedDays == other.pausedDays && inquiry.matches(other.inquiry)
                    && finding.matches(other.finding);
        }

        private boolean matchesAsTold(Complaint other) {
            return office == other.office && matter == other.matter && person == other.person
                    && happened == other.happened && toldDay == other.toldDay && atCourt == other.atCourt
                    && excused == other.excused && stepDay == other.stepDay;
        }
    }

    /** All that stands by now; its rows are made once, since isSound opens a book anew at each call. */
    private static final class Book {
        private final Office[] offices = new Office[OFFICE_LIMIT];
        private final Complaint[] complaints = new Complaint[COMPLAINT_LIMIT];
        private final int[] weights = new int[HEAD_COUNT];
        private int officeCount;
        private int complaintCount;
        private int day;

        private Book() {
            for (int i = 0; i < OFFICE_LIMIT; i++) {
                offices[i] = new Office();
            }
            for (int i = 0; i < COMPLAINT_LIMIT; i++) {
                complaints[i] = new Complaint(i);
            }
            for (int i = 0; i < HEAD_COUNT; i++) {
                weights[i] = 1;
            }
        }

        private void open() {
            officeCount = 0;
            complaintCount = 0;
            day = 0;
            for (int i = 0; i < HEAD_COUNT; i++) {
                weights[i] = 1;
            }
        }

        // ---- events: the face has looked at all that a call may refuse

        private int apply(int kind, int first, int second, int third, int fourth) {
            switch (kind) {
                case OFFICE_ADDED:
                    return openOffice(first, second);
                case DAYS_PASSED:
                    day += first;
                    return day;
                case WEIGHT_SET:
                    return weigh(first, second);
                case COMPLAINED:
                    return hear(first, second, third, fourth);
                default:
                    break;
            }
            if (first < 0 || first >= complaintCount) {
                return NONE;
            }
            return kind <= EXAMINED
                    ? applyAtIntake(kind, complaints[first], second)
                    : applyToCase(kind, complaints[first], second);
        }

        private int applyAtIntake(int kind, Complaint one, int value) {
            switch (kind) {
                case COURT_SET:
                    return tellOfCourt(one, value == 1);
                case EXCUSED:
                    return tellOfReason(one);
                case STEP_TAKEN:
                    one.stepDay = day;
                    return day + officeOf(one).days;
                default:
                    one.moveTo(intakeOf(one), day);
                    return one.state;
            }
        }

        private int applyToCase(int kind, Complaint one, int value) {
            switch (kind) {
                case OFFICE_ASKED:
                    return putToOffice(one);
                case TIME_EXTENDED:
                    return giveTime(one, value);
                case OFFICE_REMINDED:
                    return urge(one);
                case OFFICE_ANSWERED:
                    moveAll(one, STUDIED);
                    return Math.max(0, day - one.inquiry.due);
                case SILENCE_TAKEN:
                    one.inquiry.silent = true;
                    return moveAll(one, STUDIED);
                case JOINED:
                    return putBehind(one, value);
                case PARTED:
                    return setFree(one);
                case FOUND:
                    return conclude(one, value);
                case ACCEPTANCE_TOLD:
                    one.finding.acceptanceTold = true;
                    one.finding.accepted = value == 1;
                    return one.finding.heedBy;
                case REMEDY_HEEDED:
                    officeOf(one).remediesHeeded += moveAll(one, HEEDED);
                    return one.finding.heedBy - day;
                case FOLLOWED_UP:
                    return insist(one);
                case TAKEN_BACK:
                    return takeBack(one);
                default:
                    return NONE;
            }
        }

        private int openOffice(int answerDays, int matterBits) {
            if (officeCount >= OFFICE_LIMIT) {
                return NONE;
            }
            offices[officeCount].begin(answerDays, matterBits);
            officeCount++;
            return officeCount - 1;
        }

        private int weigh(int head, int weight) {
            if (head < 0 || head >= HEAD_COUNT) {
                return NONE;
            }
            int before = weights[head];
            weights[head] = weight;
            return before;
        }

        private int hear(int office, int matter, int person, int happened) {
            if (office < 0 || office >= officeCount || complaintCount >= COMPLAINT_LIMIT) {
                return NONE;
            }
            complaints[complaintCount].begin(office, matter, person, happened, day);
            complaintCount++;
            return complaintCount - 1;
        }

        private int tellOfCourt(Complaint one, boolean has) {
            int had = one.atCourt ? 1 : 0;
            one.atCourt = has;
            return had;
        }

        private int tellOfReason(Complaint one) {
            int had = one.excused ? 1 : 0;
            one.excused = true;
            return had;
        }

        private char intakeOf(Complaint one) {
            Office office = officeOf(one);
            if ((office.matters >> one.matter & 1) == 0 || one.atCourt) {
                return OUTSIDE;
            }
            if (one.toldDay - one.happened > LATE_BEHIND && !one.excused) {
                return LATE;
            }
            if (one.stepDay == NONE || day - one.stepDay < office.days) {
                return STEP_LACKS;
            }
            return RECEIVED;
        }

        private int putToOffice(Complaint one) {
            one.inquiry.begin(day + officeOf(one).days);
            moveAll(one, ASKED);
            return one.inquiry.due;
        }

        private int giveTime(Complaint one, int days) {
            one.inquiry.extended = true;
            one.inquiry.due += days;
            return one.inquiry.due;
        }

        private int urge(Complaint one) {
            one.inquiry.reminders++;
            one.inquiry.due = day + REMINDER_DAYS;
            return one.inquiry.reminders;
        }

        private int putBehind(Complaint one, int lead) {
            if (lead < 0 || lead >= complaintCount) {
                return NONE;
            }
            Complaint ahead = complaints[lead];
            one.lead = lead;
            one.moveTo(ahead.state, day);
            return followersOf(ahead);
        }

        private int setFree(Complaint one) {
            int before = one.lead;
            one.lead = one.number;
            one.moveTo(RECEIVED, day);
            return before;
        }

        private int conclude(Complaint one, int headBits) {
            int heads = one.inquiry.silent ? headBits | SILENCE_HEADS : headBits;
            one.finding.begin(heads);
            if (heads == 0) {
                moveAll(one, UNFOUNDED);
                return 0;
            }
            int sum = weightOf(heads) + Math.min(followersOf(one), JOINED_SUM_LIMIT);
            one.finding.recommend(remedyFor(sum), day);
            officeOf(one).remediesTold += moveAll(one, DECIDED);
            return one.finding.remedy;
        }

        private int insist(Complaint one) {
            if (one.finding.followed) {
                moveAll(one, IGNORED);
                return 0;
            }
            one.finding.followed = true;
            one.finding.recommend(Math.min(one.finding.remedy + 1, REMEDY_LIMIT), day);
            return one.finding.remedy;
        }

        private int takeBack(Complaint one) {
            int freed = 0;
            for (int i = 0; i < complaintCount; i++) {
                if (i != one.number && complaints[i].lead == one.number) {
                    complaints[i].lead = i;
                    complaints[i].moveTo(RECEIVED, day);
                    freed++;
                }
            }
            one.moveTo(WITHDRAWN, day);
            return freed;
        }

        /** Those joined stand where the lead stands; tells how many moved, the lead counted. */
        private int moveAll(Complaint ahead, char next) {
            int moved = 0;
            for (int i = 0; i < complaintCount; i++) {
                if (complaints[i].lead == ahead.number) {
                    complaints[i].moveTo(next, day);
                    moved++;
                }
            }
            return moved;
        }

        // ---- what stands

        private Complaint leadOf(Complaint one) {
            return one.lead >= 0 && one.lead < complaintCount ? complaints[one.lead] : one;
        }

        private Office officeOf(Complaint one) {
            return one.office >= 0 && one.office < officeCount ? offices[one.office] : offices[0];
        }

        private int followersOf(Complaint ahead) {
            int count = 0;
            for (int i = 0; i < complaintCount; i++) {
                if (i != ahead.number && complaints[i].lead == ahead.number) {
                    count++;
                }
            }
            return count;
        }

        private boolean canFollow(Complaint one, Complaint ahead) {
            return one.state == RECEIVED && !one.isJoined() && followersOf(one) == 0
                    && one.office == ahead.office && one.matter == ahead.matter && !ahead.isJoined()
                    && (ahead.state == RECEIVED || ahead.state == ASKED || ahead.state == STUDIED);
        }

        private boolean lacksAnswer(Complaint ahead) {
            return ahead.state == ASKED && day > ahead.inquiry.due;
        }

        private int weightOf(int heads) {
            int sum = 0;
            for (int i = 0; i < HEAD_COUNT; i++) {
                if ((heads >> i & 1) == 1) {
                    sum += weights[i];
                }
            }
            return sum;
        }

        private int earliestDue() {
            int least = NONE;
            for (int i = 0; i < complaintCount; i++) {
                int due = dueOf(complaints[i]);
                if (due >= day && (least == NONE || due < least)) {
                    least = due;
                }
            }
            return least;
        }

        private int dueOf(Complaint one) {
            Complaint ahead = leadOf(one);
            if (ahead.state == ASKED) {
                return ahead.inquiry.due;
            }
            return ahead.state == DECIDED ? ahead.finding.heedBy : NONE;
        }

        private int countStanding(char state) {
            int count = 0;
            for (int i = 0; i < complaintCount; i++) {
                if (complaints[i].state == state) {
                    count++;
                }
            }
            return count;
        }

        private int countTold(int person) {
            int count = 0;
            for (int i = 0; i < complaintCount; i++) {
                if (complaints[i].person == person) {
                    count++;
                }
            }
            return count;
        }

        private int countClosed() {
            int count = 0;
            for (int i = 0; i < complaintCount; i++) {
                if (isClosing(complaints[i].state)) {
                    count++;
                }
            }
            return count;
        }

        private int sumOfClosedDays() {
            int sum = 0;
            for (int i = 0; i < complaintCount; i++) {
                if (isClosing(complaints[i].state)) {
                    sum += complaints[i].daysBy(day);
                }
            }
            return sum;
        }

        // ---- soundness

        private boolean isOrderly() {
            for (int i = 0; i < complaintCount; i++) {
                Complaint one = complaints[i];
                Complaint ahead = leadOf(one);
                if (one.state != ahead.state || one.office != ahead.office || one.matter != ahead.matter) {
                    return false;
                }
                if (isClosing(one.state) && one.closedDay == NONE) {
                    return false;
                }
            }
            return true;
        }

        private boolean matches(Book other) {
            return day == other.day && matchesInOffices(other) && matchesInComplaints(other)
                    && matchesInWeights(other);
        }

        private boolean matchesInOffices(Book other) {
            if (officeCount != other.officeCount) {
                return false;
            }
            for (int i = 0; i < officeCount; i++) {
                if (!offices[i].matches(other.offices[i])) {
                    return false;
                }
            }
            return true;
        }

        private boolean matchesInComplaints(Book other) {
            if (complaintCount != other.complaintCount) {
                return false;
            }
            for (int i = 0; i < complaintCount; i++) {
                if (!complaints[i].matches(other.complaints[i])) {
                    return false;
                }
            }
            return true;
        }

        private boolean matchesInWeights(Book other) {
            for (int i = 0; i < HEAD_COUNT; i++) {
                if (weights[i] != other.weights[i]) {
                    return false;
                }
            }
            return true;
        }
    }
}
