/** Promises 13 to 19 at their edges: above each method stands the sentence of the document that it tests. */
public final class AskingEdgesTest {
    private static final Check CHECK = new Check("AskingEdgesTest");
    private static final int LEAST = Integer.MIN_VALUE;
    private static final int MOST = Integer.MAX_VALUE;

    public static void main(String[] args) {
        p13Due();
        p13DueByItsOwnOffice();
        p13Joined();
        p13NotReceived();
        p14Days();
        p14OnItsDay();
        p14Once();
        p14BehindEachReminder();
        p14Joined();
        p14NotAsked();
        p15OnItsDay();
        p15DueInSevenDays();
        p15ThreeTimesAtMost();
        p15BehindAnExtension();
        p15Joined();
        p15NotAsked();
        p16DaysOverdue();
        p16ByTheDayOfTheReminder();
        p16ByTheDayOfTheExtension();
        p16JoinedAndNotAsked();
        p17BehindThreeReminders();
        p17OnItsDay();
        p17BehindAnExtension();
        p17HowManyAreStudied();
        p17JoinedAndNotAsked();
        p18OnItsDay();
        p18NotAsked();
        p18Joined();
        p19None();
        p19OnItsDay();
        p19Least();
        p19AnswersAndRemedies();
        p19Joined();
        p19Closed();
        p19OnTheLastDay();
        CHECK.end();
    }

    /** "the answer is due in as many days as the office has" */
    private static void p13Due() {
        for (int days : new int[] {1, 2, 59, 60}) {
            for (int later : new int[] {0, 1, 400}) {
                GrievanceOmbud x = Scene.received(days, 1);
                Scene.until(x, days + later);
                CHECK.is("13: " + days + " days, " + later + " days later", x.ask(0), days + later + days);
                CHECK.is("13: is asked", x.state(0), 'a');
                CHECK.is("13: is due then", x.nextDue(), days + later + days);
            }
        }
    }

    /** "as many days as the office has": each complaint's own office */
    private static void p13DueByItsOwnOffice() {
        GrievanceOmbud x = new GrievanceOmbud();
        for (int i = 0; i < 6; i++) {
            x.addOffice(10 * i + 1, 1);
            x.complain(i, 0, 0, 0);
            x.takeStep(i);
        }
        x.pass(60);
        for (int i = 0; i < 6; i++) {
            x.examine(i);
            CHECK.is("13: against the office " + i, x.ask(i), 60 + 10 * i + 1);
        }
    }

    /** "if it is joined to another one" */
    private static void p13Joined() {
        for (char state : "rasduhi".toCharArray()) {
            GrievanceOmbud x = Standing.behind(state);
            CHECK.fails("13: joined to " + state, x, Check.NOT_SO, () -> x.ask(1));
        }
        GrievanceOmbud y = Standing.behind('r');
        CHECK.is("13: the lead", y.ask(0), 10);
        CHECK.is("13: the joined one is asked by that", y.state(1), 'a');
        GrievanceOmbud z = Standing.behind('r');
        z.part(1);
        CHECK.is("13: parted", z.ask(1), 10);
        CHECK.is("13: the one that led is not", z.state(0), 'r');
    }

    /** "or is not received" */
    private static void p13NotReceived() {
        for (char state : "nfasdoluhiw".toCharArray()) {
            GrievanceOmbud x = Standing.as(state);
            CHECK.fails("13: as " + state, x, Check.NOT_SO, () -> x.ask(0));
        }
    }

    /** "days: 1 to 30" */
    private static void p14Days() {
        for (int days = 1; days <= 30; days++) {
            GrievanceOmbud x = Scene.asked(5, 1);
            CHECK.is("14: by " + days, x.extend(0, days), 10 + days);
            CHECK.is("14: is due then", x.nextDue(), 10 + days);
        }
        GrievanceOmbud y = Scene.asked(5, 1);
        for (int days : new int[] {0, 31, -1, 32, LEAST, MOST}) {
            CHECK.fails("14: by " + days, y, Check.RANGE, () -> y.extend(0, days));
        }
        CHECK.is("14: a refused one does not count", y.extend(0, 30), 40);
    }

    /** "as long as it is not overdue" */
    private static void p14OnItsDay() {
        for (int day = 5; day <= 10; day++) {
            GrievanceOmbud x = Scene.asked(5, 1);
            Scene.until(x, day);
            CHECK.is("14: on day " + day + ", due on 10", x.extend(0, 1), 11);
        }
        for (int day : new int[] {11, 12, 400}) {
            GrievanceOmbud x = Scene.asked(5, 1);
            Scene.until(x, day);
            CHECK.fails("14: on day " + day + ", due on 10", x, Check.NOT_SO, () -> x.extend(0, 1));
            CHECK.fails("14: by 30, too", x, Check.NOT_SO, () -> x.extend(0, 30));
        }
        GrievanceOmbud y = Scene.asked(5, 1);
        y.pass(5);
        y.extend(0, 1);
        y.pass(1);
        CHECK.is("14: on the new day", y.isOverdue(0), false);
        y.pass(1);
        CHECK.is("14: behind the new day", y.isOverdue(0), true);
    }

    /** "That can be extended once" */
    private static void p14Once() {
        GrievanceOmbud x = Scene.asked(5, 2);
        x.extend(0, 1);
        CHECK.fails("14: twice", x, Check.NOT_SO, () -> x.extend(0, 1));
        CHECK.fails("14: twice, by 30", x, Check.NOT_SO, () -> x.extend(0, 30));
        x.ask(1);
        CHECK.is("14: another one, once", x.extend(1, 2), 12);
        GrievanceOmbud y = Standing.behind('a');
        y.extend(0, 1);
        y.part(1);
        y.ask(1);
        CHECK.is("14: once by itself, though its lead was", y.extend(1, 30), 40);
    }

    /** "behind a reminder, too" */
    private static void p14BehindEachReminder() {
        for (int reminders = 1; reminders <= 3; reminders++) {
            GrievanceOmbud x = reminded(reminders);
            int due = x.nextDue();
            CHECK.is("14: just reminded of", x.extend(0, 30), due + 30);
            CHECK.fails("14: only once", x, Check.NOT_SO, () -> x.extend(0, 1));
            GrievanceOmbud y = reminded(reminders);
            y.pass(7);
            CHECK.is("14: on the reminder's day", y.extend(0, 1), due + 1);
            GrievanceOmbud z = reminded(reminders);
            z.pass(8);
            CHECK.fails("14: behind the reminder's day", z, Check.NOT_SO, () -> z.extend(0, 1));
        }
        GrievanceOmbud v = Scene.asked(5, 1);
        v.extend(0, 1);
        v.pass(7);
        v.remind(0);
        CHECK.fails("14: extended before the reminder", v, Check.NOT_SO, () -> v.extend(0, 1));
    }

    /** "if it is joined to another one" */
    private static void p14Joined() {
        for (char state : "rasduhi".toCharArray()) {
            GrievanceOmbud x = Standing.behind(state);
            CHECK.fails("14: joined to " + state, x, Check.NOT_SO, () -> x.extend(1, 1));
        }
        GrievanceOmbud y = Standing.behind('a');
        CHECK.is("14: the lead", y.extend(0, 30), 40);
        y.pass(6);
        CHECK.is("14: for the joined one, too", y.isOverdue(1), false);
    }

    /** "or is not asked" */
    private static void p14NotAsked() {
        for (char state : "nfrsdoluhiw".toCharArray()) {
            GrievanceOmbud x = Standing.as(state);
            CHECK.fails("14: as " + state, x, Check.NOT_SO, () -> x.extend(0, 1));
        }
    }

    /** "The office can be reminded of what is overdue"; "is not overdue" */
    private static void p15OnItsDay() {
        for (int day = 5; day <= 10; day++) {
            GrievanceOmbud x = Scene.asked(5, 1);
            Scene.until(x, day);
            CHECK.fails("15: on day " + day + ", due on 10", x, Check.NOT_SO, () -> x.remind(0));
        }
        for (int day : new int[] {11, 12, 400, 9999}) {
            GrievanceOmbud x = Scene.asked(5, 1);
            Scene.until(x, day);
            CHECK.is("15: on day " + day + ", due on 10", x.remind(0), 1);
            CHECK.is("15: is due in 7 days from then on", x.nextDue(), day + 7);
        }
    }

    /** "it is due in 7 days from then on" */
    private static void p15DueInSevenDays() {
        for (int reminders = 1; reminders <= 3; reminders++) {
            GrievanceOmbud x = reminded(reminders);
            CHECK.is("15: next", x.nextDue(), x.today() + 7);
            x.pass(6);
            CHECK.is("15: a day before", x.isOverdue(0), false);
            x.pass(1);
            CHECK.is("15: on the day", x.isOverdue(0), false);
            CHECK.fails("15: on the day", x, Check.NOT_SO, () -> x.remind(0));
            x.pass(1);
            CHECK.is("15: behind it", x.isOverdue(0), true);
        }
    }

    /** "three times at most"; "or it was three times"; "Returns how many times it was reminded." */
    private static void p15ThreeTimesAtMost() {
        GrievanceOmbud x = Scene.asked(5, 2);
        for (int times = 1; times <= 3; times++) {
            x.pass(8);
            CHECK.is("15: so many times", x.remind(0), times);
            CHECK.fails("15: not at once again", x, Check.NOT_SO, () -> x.remind(0));
        }
        x.pass(8);
        CHECK.fails("15: a fourth time", x, Check.NOT_SO, () -> x.remind(0));
        x.pass(400);
        CHECK.fails("15: a fourth time, long behind", x, Check.NOT_SO, () -> x.remind(0));
        CHECK.is("15: asked still", x.state(0), 'a');
        x.ask(1);
        x.pass(6);
        CHECK.is("15: another one, the first time", x.remind(1), 1);
    }

    /** "is not overdue", by the day that was extended; the extension does not count as a reminder */
    private static void p15BehindAnExtension() {
        GrievanceOmbud x = Scene.asked(5, 1);
        x.extend(0, 30);
        x.pass(35);
        CHECK.fails("15: on the new day", x, Check.NOT_SO, () -> x.remind(0));
        x.pass(1);
        CHECK.is("15: behind the new day", x.remind(0), 1);
        CHECK.is("15: 7 days, not the extended ones", x.nextDue(), 48);
        GrievanceOmbud y = reminded(2);
        y.extend(0, 1);
        y.pass(8);
        CHECK.fails("15: on the new day behind two", y, Check.NOT_SO, () -> y.remind(0));
        y.pass(1);
        CHECK.is("15: the third", y.remind(0), 3);
    }

    /** "if it is joined to another one" */
    private static void p15Joined() {
        for (char state : "rasduhi".toCharArray()) {
            GrievanceOmbud x = Standing.behind(state);
            x.pass(61);
            CHECK.fails("15: joined to " + state, x, Check.NOT_SO, () -> x.remind(1));
        }
        GrievanceOmbud y = Standing.behind('a');
        y.pass(6);
        CHECK.is("15: the lead", y.remind(0), 1);
        CHECK.is("15: for the joined one, too", y.isOverdue(1), false);
    }

    /** "or is not asked" */
    private static void p15NotAsked() {
        for (char state : "nfrsdoluhiw".toCharArray()) {
            GrievanceOmbud x = Standing.as(state);
            x.pass(61);
            CHECK.fails("15: as " + state, x, Check.NOT_SO, () -> x.remind(0));
        }
    }

    /** "Returns how many days that was overdue, ..., 0 if not." */
    private static void p16DaysOverdue() {
        for (int day : new int[] {5, 6, 9, 10, 11, 12, 40, 410, 9999}) {
            GrievanceOmbud x = Scene.asked(5, 1);
            Scene.until(x, day);
            CHECK.is("16: on day " + day + ", due on 10", x.answer(0), Math.max(0, day - 10));
            CHECK.is("16: is studied", x.state(0), 's');
        }
    }

    /** "by the day on which it was due last" */
    private static void p16ByTheDayOfTheReminder() {
        for (int reminders = 1; reminders <= 3; reminders++) {
            for (int later : new int[] {0, 6, 7, 8, 9}) {
                GrievanceOmbud x = reminded(reminders);
                Scene.until(x, x.today() + later);
                CHECK.is("16: " + later + " days behind reminder " + reminders, x.answer(0), Math.max(0, later - 7));
            }
        }
    }

    /** "by the day on which it was due last" */
    private static void p16ByTheDayOfTheExtension() {
        for (int day : new int[] {10, 11, 39, 40, 41, 42}) {
            GrievanceOmbud x = Scene.asked(5, 1);
            x.extend(0, 30);
            Scene.until(x, day);
            CHECK.is("16: on day " + day + ", extended to 40", x.answer(0), Math.max(0, day - 40));
        }
    }

    /** "if it is joined to another one, or is not asked" */
    private static void p16JoinedAndNotAsked() {
        for (char state : "rasduhi".toCharArray()) {
            GrievanceOmbud x = Standing.behind(state);
            CHECK.fails("16: joined to " + state, x, Check.NOT_SO, () -> x.answer(1));
        }
        for (char state : "nfrsdoluhiw".toCharArray()) {
            GrievanceOmbud x = Standing.as(state);
            CHECK.fails("16: as " + state, x, Check.NOT_SO, () -> x.answer(0));
        }
        GrievanceOmbud y = Standing.behind('a');
        y.pass(7);
        CHECK.is("16: the lead", y.answer(0), 2);
        CHECK.is("16: the joined one is studied by that", y.state(1), 's');
    }

    /** "or there were not three reminders" */
    private static void p17BehindThreeReminders() {
        GrievanceOmbud none = Scene.asked(5, 1);
        none.pass(6);
        CHECK.fails("17: behind none", none, Check.NOT_SO, () -> none.takeSilence(0));
        none.pass(400);
        CHECK.fails("17: behind none, long overdue", none, Check.NOT_SO, () -> none.takeSilence(0));
        for (int reminders = 1; reminders <= 2; reminders++) {
            GrievanceOmbud x = reminded(reminders);
            x.pass(8);
            CHECK.fails("17: behind " + reminders, x, Check.NOT_SO, () -> x.takeSilence(0));
        }
        GrievanceOmbud three = reminded(3);
        three.pass(8);
        CHECK.is("17: behind three", three.takeSilence(0), 1);
    }

    /** "looking at what is overdue behind three reminders"; "is not overdue" */
    private static void p17OnItsDay() {
        for (int later = 0; later <= 7; later++) {
            GrievanceOmbud x = reminded(3);
            Scene.until(x, x.today() + later);
            CHECK.fails("17: " + later + " days behind the third", x, Check.NOT_SO, () -> x.takeSilence(0));
        }
        for (int later : new int[] {8, 9, 400}) {
            GrievanceOmbud x = reminded(3);
            Scene.until(x, x.today() + later);
            CHECK.is("17: " + later + " days behind the third", x.takeSilence(0), 1);
            CHECK.is("17: is studied", x.state(0), 's');
        }
    }

    /** "is not overdue", by the day that was extended behind the third reminder */
    private static void p17BehindAnExtension() {
        GrievanceOmbud x = reminded(3);
        x.pass(7);
        x.extend(0, 30);
        x.pass(30);
        CHECK.fails("17: on the new day", x, Check.NOT_SO, () -> x.takeSilence(0));
        x.pass(1);
        CHECK.is("17: behind the new day", x.takeSilence(0), 1);
    }

    /** "Returns how many complaints are studied by that, joined ones too." */
    private static void p17HowManyAreStudied() {
        for (int joined : new int[] {0, 1, 5, 6, 19}) {
            GrievanceOmbud x = Scene.received(5, 20);
            for (int i = 0; i < joined; i++) {
                x.join(i, 19);
            }
            x.ask(19);
            for (int i = 0; i < 3; i++) {
                x.pass(8);
                x.remind(19);
            }
            x.pass(8);
            CHECK.is("17: with so many joined", x.takeSilence(19), joined + 1);
            CHECK.is("17: so many are studied", x.countState('s'), joined + 1);
            CHECK.is("17: so many are not", x.countState('r'), 19 - joined);
        }
    }

    /** "if it is joined to another one, or is not asked" */
    private static void p17JoinedAndNotAsked() {
        GrievanceOmbud x = Scene.received(5, 2);
        x.join(1, 0);
        x.ask(0);
        for (int i = 0; i < 3; i++) {
            x.pass(8);
            x.remind(0);
        }
        x.pass(8);
        CHECK.fails("17: joined", x, Check.NOT_SO, () -> x.takeSilence(1));
        x.answer(0);
        CHECK.fails("17: answered", x, Check.NOT_SO, () -> x.takeSilence(0));
        for (char state : "nfrasdoluhiw".toCharArray()) {
            GrievanceOmbud y = Standing.as(state);
            y.pass(61);
            CHECK.fails("17: as " + state + " without reminders", y, Check.NOT_SO, () -> y.takeSilence(0));
        }
        GrievanceOmbud z = Scene.studiedBySilence(5, 1);
        CHECK.fails("17: twice", z, Check.NOT_SO, () -> z.takeSilence(0));
    }

    /** "it is overdue on the days behind that on which it is due" */
    private static void p18OnItsDay() {
        for (int days : new int[] {1, 60}) {
            GrievanceOmbud x = Scene.asked(days, 1);
            CHECK.is("18: just asked", x.isOverdue(0), false);
            Scene.until(x, 2 * days - 1);
            CHECK.is("18: a day before", x.isOverdue(0), false);
            Scene.until(x, 2 * days);
            CHECK.is("18: on the day", x.isOverdue(0), false);
            x.pass(1);
            CHECK.is("18: the first day behind", x.isOverdue(0), true);
            x.pass(400);
            CHECK.is("18: long behind", x.isOverdue(0), true);
        }
    }

    /** "Returns whether it is asked, and overdue." */
    private static void p18NotAsked() {
        for (char state : Standing.ALL.toCharArray()) {
            GrievanceOmbud x = Standing.as(state);
            CHECK.is("18: as " + state + ", at once", x.isOverdue(0), false);
            x.pass(400);
            CHECK.is("18: as " + state + ", long behind", x.isOverdue(0), state == 'a');
            CHECK.is("18: the other one", x.isOverdue(1), false);
        }
        GrievanceOmbud y = Scene.asked(5, 1);
        y.pass(6);
        y.answer(0);
        CHECK.is("18: answered too late", y.isOverdue(0), false);
    }

    /** "Of a joined complaint what is told of answers, findings and remedies is that of its lead." */
    private static void p18Joined() {
        for (char state : "rasduhi".toCharArray()) {
            GrievanceOmbud x = Standing.behind(state);
            x.pass(400);
            CHECK.is("18: joined to " + state, x.isOverdue(1), state == 'a');
        }
        GrievanceOmbud y = Scene.asked(5, 2);
        y.pass(5);
        y.join(1, 0);
        CHECK.is("18: joined on the lead's day", y.isOverdue(1), false);
        y.pass(1);
        CHECK.is("18: behind it", y.isOverdue(1), true);
        y.part(1);
        CHECK.is("18: parted", y.isOverdue(1), false);
        y.join(1, 0);
        CHECK.is("18: joined to what is overdue", y.isOverdue(1), true);
    }

    /** "Throws NoSuchElementException if there is none" */
    private static void p19None() {
        GrievanceOmbud none = new GrievanceOmbud();
        CHECK.fails("19: without offices", none, Check.NONE, none::nextDue);
        for (char state : "nfrsoluhiw".toCharArray()) {
            GrievanceOmbud x = Standing.as(state);
            CHECK.fails("19: as " + state, x, Check.NONE, x::nextDue);
        }
        GrievanceOmbud overdue = Scene.asked(5, 1);
        overdue.pass(6);
        CHECK.fails("19: only what is overdue", overdue, Check.NONE, overdue::nextDue);
        GrievanceOmbud over = Scene.withRemedy(1);
        over.pass(31);
        CHECK.fails("19: only what is over its day", over, Check.NONE, over::nextDue);
    }

    /** "Returns the least such day from now on." */
    private static void p19OnItsDay() {
        GrievanceOmbud x = Scene.asked(5, 1);
        x.pass(4);
        CHECK.is("19: a day before an answer", x.nextDue(), 10);
        x.pass(1);
        CHECK.is("19: on an answer's day", x.nextDue(), 10);
        x.pass(1);
        CHECK.fails("19: behind an answer's day", x, Check.NONE, x::nextDue);
        for (int remedy = 1; remedy <= 4; remedy++) {
            GrievanceOmbud y = Scene.withRemedy(remedy);
            Scene.until(y, 5 + 30 * remedy - 1);
            CHECK.is("19: a day before a remedy", y.nextDue(), 5 + 30 * remedy);
            y.pass(1);
            CHECK.is("19: on a remedy's day", y.nextDue(), 5 + 30 * remedy);
            y.pass(1);
            CHECK.fails("19: behind a remedy's day", y, Check.NONE, y::nextDue);
        }
    }

    /** "the least", of as many as there can be, whichever of them it is */
    private static void p19Least() {
        for (int first = 0; first < 20; first++) {
            GrievanceOmbud x = Scene.received(5, 20);
            for (int i = 0; i < 20; i++) {
                x.ask(i);
                if (i != first) {
                    x.extend(i, 1 + i);
                }
            }
            CHECK.is("19: the least is that of " + first, x.nextDue(), 10);
            x.answer(first);
            CHECK.is("19: the least of the others", x.nextDue(), first == 0 ? 12 : 11);
        }
        GrievanceOmbud y = Scene.received(5, 2);
        y.ask(0);
        y.ask(1);
        CHECK.is("19: both on the same day", y.nextDue(), 10);
        y.answer(0);
        CHECK.is("19: one of them still", y.nextDue(), 10);
        y.extend(1, 30);
        y.pass(6);
        CHECK.is("19: extended", y.nextDue(), 40);
    }

    /** "the next day on which an answer is due, or a remedy to be heeded" */
    private static void p19AnswersAndRemedies() {
        GrievanceOmbud x = Scene.received(5, 2);
        x.ask(0);
        x.answer(0);
        x.find(0, 1);
        x.ask(1);
        CHECK.is("19: an answer before a remedy", x.nextDue(), 10);
        x.extend(1, 24);
        CHECK.is("19: a day before it", x.nextDue(), 34);
        x.pass(30);
        CHECK.is("19: behind the answer's day", x.nextDue(), 35);
        x.remind(1);
        CHECK.is("19: due anew, but behind it", x.nextDue(), 35);
        x.pass(1);
        CHECK.is("19: behind the remedy's day", x.nextDue(), 42);
        x.followUp(0);
        CHECK.is("19: both anew", x.nextDue(), 42);
        x.answer(1);
        CHECK.is("19: two steps, anew", x.nextDue(), 96);
        x.accept(0, false);
        CHECK.is("19: though it is not accepted", x.nextDue(), 96);
    }

    /** "Of a joined complaint what is told of answers, findings and remedies is that of its lead." */
    private static void p19Joined() {
        GrievanceOmbud x = Scene.received(5, 3);
        x.join(0, 2);
        x.join(1, 2);
        x.ask(2);
        CHECK.is("19: the lead's answer", x.nextDue(), 10);
        x.part(0);
        CHECK.is("19: one parted", x.nextDue(), 10);
        x.withdraw(2);
        CHECK.fails("19: those received anew have none", x, Check.NONE, x::nextDue);
        GrievanceOmbud y = Standing.behind('d');
        y.withdraw(0);
        CHECK.fails("19: no remedy of those received anew", y, Check.NONE, y::nextDue);
    }

    /** What is closed is neither due nor to be heeded. */
    private static void p19Closed() {
        GrievanceOmbud heeded = Scene.withRemedy(1);
        heeded.heed(0);
        CHECK.fails("19: heeded", heeded, Check.NONE, heeded::nextDue);
        GrievanceOmbud asked = Scene.asked(5, 1);
        asked.withdraw(0);
        CHECK.fails("19: withdrawn while asked", asked, Check.NONE, asked::nextDue);
        GrievanceOmbud decided = Scene.withRemedy(4);
        decided.withdraw(0);
        CHECK.fails("19: withdrawn while decided", decided, Check.NONE, decided::nextDue);
        GrievanceOmbud answered = Scene.asked(5, 1);
        answered.answer(0);
        CHECK.fails("19: answered", answered, Check.NONE, answered::nextDue);
    }

    /** "Days are numbered from 0 to 9999": what is due may lie beyond. */
    private static void p19OnTheLastDay() {
        GrievanceOmbud x = Scene.received(60, 2);
        Scene.until(x, 9999);
        CHECK.is("13: due beyond the last day", x.ask(0), 10059);
        CHECK.is("19: an answer beyond the last day", x.nextDue(), 10059);
        CHECK.is("14: extended beyond the last day", x.extend(0, 30), 10089);
        CHECK.is("19: and that", x.nextDue(), 10089);
        CHECK.is("18: not overdue", x.isOverdue(0), false);
        x.ask(1);
        x.answer(1);
        x.find(1, Scene.spread(x, 16));
        CHECK.is("19: the answer before the remedy", x.nextDue(), 10089);
        CHECK.is("16: not overdue", x.answer(0), 0);
        CHECK.is("19: a remedy beyond the last day", x.nextDue(), 9999 + 120);
        CHECK.is("37: sound", x.isSound(), true);
    }

    /** One complaint of an office with 5 days, just reminded of so many times. */
    private static GrievanceOmbud reminded(int times) {
        GrievanceOmbud x = Scene.asked(5, 1);
        x.pass(6);
        x.remind(0);
        for (int i = 1; i < times; i++) {
            x.pass(8);
            x.remind(0);
        }
        return x;
    }
}
