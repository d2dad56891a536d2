/** Promises 13 to 19: asking, extending, reminding, answers and silence. */
public final class AskingTest {
    private static final Check CHECK = new Check("AskingTest");

    public static void main(String[] args) {
        promise13();
        promise14();
        promise14BehindReminder();
        promise15();
        promise16();
        promise17();
        promise18();
        promise19();
        promise19Remedies();
        CHECK.end();
    }

    private static void promise13() {
        GrievanceOmbud x = Scene.received(10, 3);
        x.complain(0, 0, 0, 0);
        x.join(1, 0);
        CHECK.fails("13: -1", x, Check.NO_SUCH, () -> x.ask(-1));
        CHECK.fails("13: 4", x, Check.NO_SUCH, () -> x.ask(4));
        CHECK.fails("13: joined", x, Check.NOT_SO, () -> x.ask(1));
        CHECK.fails("13: new", x, Check.NOT_SO, () -> x.ask(3));
        x.pass(2);
        CHECK.is("13: due", x.ask(0), 22);
        CHECK.is("13: joined one is asked too", x.state(1), 'a');
        CHECK.is("13: another is not", x.state(2), 'r');
        CHECK.fails("13: asked", x, Check.NOT_SO, () -> x.ask(0));
        x.answer(0);
        CHECK.fails("13: studied", x, Check.NOT_SO, () -> x.ask(0));
    }

    private static void promise14() {
        GrievanceOmbud x = Scene.received(10, 2);
        CHECK.fails("14: received", x, Check.NOT_SO, () -> x.extend(0, 1));
        x.join(1, 0);
        x.ask(0);
        CHECK.fails("14: -1, ahead of range", x, Check.NO_SUCH, () -> x.extend(-1, 0));
        CHECK.fails("14: 2, ahead of range", x, Check.NO_SUCH, () -> x.extend(2, 31));
        CHECK.fails("14: 0 days", x, Check.RANGE, () -> x.extend(0, 0));
        CHECK.fails("14: 31 days", x, Check.RANGE, () -> x.extend(0, 31));
        CHECK.fails("14: range ahead of joined", x, Check.RANGE, () -> x.extend(1, 31));
        CHECK.fails("14: joined", x, Check.NOT_SO, () -> x.extend(1, 1));
        x.pass(10);
        CHECK.is("14: on the last day", x.extend(0, 30), 50);
        CHECK.fails("14: twice", x, Check.NOT_SO, () -> x.extend(0, 1));
        CHECK.fails("14: range ahead of extended", x, Check.RANGE, () -> x.extend(0, 0));
        x.pass(31);
        CHECK.is("14: overdue behind the new day", x.answer(0), 1);
        GrievanceOmbud y = Scene.asked(10, 1);
        y.pass(11);
        CHECK.fails("14: overdue", y, Check.NOT_SO, () -> y.extend(0, 30));
        y.answer(0);
        CHECK.fails("14: studied", y, Check.NOT_SO, () -> y.extend(0, 30));
    }

    private static void promise14BehindReminder() {
        GrievanceOmbud x = Scene.asked(10, 1);
        x.pass(15);
        x.remind(0);
        CHECK.is("14: behind a reminder", x.extend(0, 1), 33);
        CHECK.is("14: due then", x.nextDue(), 33);
        x.pass(9);
        x.remind(0);
        CHECK.fails("14: only once, behind a further one, too", x, Check.NOT_SO, () -> x.extend(0, 1));
    }

    private static void promise15() {
        GrievanceOmbud x = Scene.received(10, 2);
        CHECK.fails("15: received", x, Check.NOT_SO, () -> x.remind(0));
        x.join(1, 0);
        x.ask(0);
        x.pass(10);
        CHECK.fails("15: -1", x, Check.NO_SUCH, () -> x.remind(-1));
        CHECK.fails("15: 2", x, Check.NO_SUCH, () -> x.remind(2));
        CHECK.fails("15: on the day", x, Check.NOT_SO, () -> x.remind(0));
        x.pass(1);
        CHECK.fails("15: joined", x, Check.NOT_SO, () -> x.remind(1));
        CHECK.is("15: first", x.remind(0), 1);
        CHECK.is("15: due in 7 days from then on", x.nextDue(), 28);
        CHECK.fails("15: not overdue any more", x, Check.NOT_SO, () -> x.remind(0));
        x.pass(8);
        CHECK.is("15: second", x.remind(0), 2);
        x.pass(20);
        CHECK.is("15: third", x.remind(0), 3);
        CHECK.is("15: due from the reminder", x.nextDue(), 56);
        x.pass(8);
        CHECK.fails("15: fourth", x, Check.NOT_SO, () -> x.remind(0));
        x.answer(0);
        CHECK.fails("15: studied", x, Check.NOT_SO, () -> x.remind(0));
    }

    private static void promise16() {
        GrievanceOmbud x = Scene.received(10, 3);
        CHECK.fails("16: received", x, Check.NOT_SO, () -> x.answer(0));
        x.join(1, 0);
        x.ask(0);
        x.ask(2);
        CHECK.fails("16: -1", x, Check.NO_SUCH, () -> x.answer(-1));
        CHECK.fails("16: 3", x, Check.NO_SUCH, () -> x.answer(3));
        CHECK.fails("16: joined", x, Check.NOT_SO, () -> x.answer(1));
        x.pass(3);
        CHECK.is("16: in time", x.answer(0), 0);
        CHECK.is("16: studied", x.state(0), 's');
        CHECK.is("16: joined one, too", x.state(1), 's');
        CHECK.fails("16: twice", x, Check.NOT_SO, () -> x.answer(0));
        x.pass(12);
        CHECK.is("16: overdue", x.answer(2), 5);
        GrievanceOmbud y = Scene.asked(10, 1);
        y.pass(12);
        y.remind(0);
        y.pass(8);
        CHECK.is("16: by the day on which it was due last", y.answer(0), 1);
        GrievanceOmbud z = Scene.asked(10, 1);
        z.pass(10);
        CHECK.is("16: on the day", z.answer(0), 0);
    }

    private static void promise17() {
        GrievanceOmbud x = Scene.received(10, 3);
        CHECK.fails("17: received", x, Check.NOT_SO, () -> x.takeSilence(0));
        x.join(1, 0);
        x.join(2, 0);
        x.ask(0);
        CHECK.fails("17: -1", x, Check.NO_SUCH, () -> x.takeSilence(-1));
        CHECK.fails("17: 3", x, Check.NO_SUCH, () -> x.takeSilence(3));
        for (int i = 0; i < 3; i++) {
            x.pass(11);
            CHECK.fails("17: not three reminders", x, Check.NOT_SO, () -> x.takeSilence(0));
            x.remind(0);
        }
        x.pass(7);
        CHECK.fails("17: on the day", x, Check.NOT_SO, () -> x.takeSilence(0));
        x.pass(1);
        CHECK.fails("17: joined", x, Check.NOT_SO, () -> x.takeSilence(1));
        CHECK.is("17: three", x.takeSilence(0), 3);
        CHECK.is("17: studied", x.state(0), 's');
        CHECK.is("17: joined one, too", x.state(2), 's');
        CHECK.fails("17: twice", x, Check.NOT_SO, () -> x.takeSilence(0));
        GrievanceOmbud y = Scene.silent(10, 2);
        CHECK.is("17: one alone", y.takeSilence(0), 1);
        CHECK.is("17: the other one stands as it did", y.state(1), 'r');
    }

    private static void promise18() {
        GrievanceOmbud x = Scene.received(10, 3);
        CHECK.fails("18: -1", x, Check.NO_SUCH, () -> x.isOverdue(-1));
        CHECK.fails("18: 3", x, Check.NO_SUCH, () -> x.isOverdue(3));
        x.join(1, 0);
        x.ask(0);
        x.pass(10);
        CHECK.is("18: on the day", x.isOverdue(0), false);
        x.pass(1);
        CHECK.is("18: behind it", x.isOverdue(0), true);
        CHECK.is("18: joined", x.isOverdue(1), true);
        CHECK.is("18: not asked", x.isOverdue(2), false);
        x.remind(0);
        CHECK.is("18: reminded of", x.isOverdue(0), false);
        x.pass(8);
        CHECK.is("18: overdue again", x.isOverdue(0), true);
        x.part(1);
        CHECK.is("18: parted", x.isOverdue(1), false);
        x.answer(0);
        CHECK.is("18: studied", x.isOverdue(0), false);
    }

    private static void promise19() {
        GrievanceOmbud x = Scene.received(10, 3);
        CHECK.fails("19: nothing asked", x, Check.NONE, x::nextDue);
        x.ask(0);
        x.pass(3);
        x.ask(1);
        CHECK.is("19: the least", x.nextDue(), 20);
        x.pass(7);
        CHECK.is("19: of now", x.nextDue(), 20);
        x.pass(1);
        CHECK.is("19: what is overdue does not count", x.nextDue(), 23);
        x.answer(1);
        CHECK.fails("19: only what is overdue", x, Check.NONE, x::nextDue);
        x.remind(0);
        CHECK.is("19: due anew", x.nextDue(), 28);
        x.withdraw(0);
        CHECK.fails("19: withdrawn", x, Check.NONE, x::nextDue);
    }

    private static void promise19Remedies() {
        GrievanceOmbud x = Scene.decided(10, 2, 2);
        CHECK.is("19: remedy", x.nextDue(), 40);
        x.complain(0, 0, 0, 0);
        x.takeStep(2);
        x.pass(10);
        x.examine(2);
        x.ask(2);
        CHECK.is("19: an answer ahead of it", x.nextDue(), 30);
        x.extend(2, 30);
        CHECK.is("19: the remedy ahead of it", x.nextDue(), 40);
        x.pass(20);
        CHECK.is("19: the remedy's day is now", x.nextDue(), 40);
        x.pass(1);
        CHECK.is("19: over its day", x.nextDue(), 60);
        x.followUp(0);
        x.answer(2);
        CHECK.is("19: followed up", x.nextDue(), 101);
        x.heed(0);
        CHECK.fails("19: heeded", x, Check.NONE, x::nextDue);
        GrievanceOmbud y = Scene.office(60);
        y.complain(0, 0, 0, 0);
        y.takeStep(0);
        for (int i = 0; i < 25; i++) {
            y.pass(i < 24 ? 400 : 399);
        }
        y.examine(0);
        CHECK.is("19: due beyond the last day", y.ask(0), 10059);
        CHECK.is("19: and the next one", y.nextDue(), 10059);
    }
}
