import java.lang.reflect.Array;
import java.lang.reflect.Field;
import java.lang.reflect.Method;
import java.util.NoSuchElementException;

/** Promises 33 to 37: clocks, shares, the mean, the checksum and soundness. */
public final class FiguresTest {
    private static final Check CHECK = new Check("FiguresTest");

    public static void main(String[] args) throws ReflectiveOperationException {
        promise33();
        promise33Joined();
        promise33Closed();
        promise34();
        promise34Withdrawn();
        promise35();
        promise36();
        promise37();
        promise37ToldOverAndOver();
        promise37Tampered();
        promise37TamperedTwice();
        fullHouse();
        limits();
        CHECK.end();
    }

    private static void promise33() {
        GrievanceOmbud x = Scene.office(10);
        x.pass(4);
        x.complain(0, 0, 0, 0);
        CHECK.fails("33: -1", x, Check.NO_SUCH, () -> x.days(-1));
        CHECK.fails("33: 1", x, Check.NO_SUCH, () -> x.days(1));
        CHECK.is("33: none on the first", x.days(0), 0);
        x.takeStep(0);
        x.pass(10);
        x.examine(0);
        CHECK.is("33: from the telling on", x.days(0), 10);
        x.ask(0);
        CHECK.is("33: asked just now", x.days(0), 10);
        x.pass(6);
        CHECK.is("33: while it is asked", x.days(0), 10);
        x.answer(0);
        CHECK.is("33: studied just now", x.days(0), 10);
        x.pass(3);
        CHECK.is("33: goes on behind that", x.days(0), 13);
    }

    private static void promise33Joined() {
        GrievanceOmbud x = Scene.asked(10, 4);
        x.pass(5);
        x.join(1, 0);
        x.join(2, 0);
        x.pass(4);
        CHECK.is("33: the lead", x.days(0), 10);
        CHECK.is("33: joined 5 days later", x.days(1), 15);
        CHECK.is("33: not joined", x.days(3), 19);
        x.part(1);
        x.pass(2);
        CHECK.is("33: parted", x.days(1), 17);
        x.join(1, 0);
        x.pass(1);
        CHECK.is("33: joined anew", x.days(1), 17);
        x.answer(0);
        x.pass(6);
        CHECK.is("33: the lead studied", x.days(0), 16);
        CHECK.is("33: joined throughout", x.days(2), 21);
        CHECK.is("33: joined twice", x.days(1), 23);
        GrievanceOmbud y = Scene.asked(10, 2);
        y.join(1, 0);
        y.pass(5);
        y.withdraw(0);
        y.pass(7);
        CHECK.is("33: withdrawn while asked", y.days(0), 10);
        CHECK.is("33: received anew", y.days(1), 17);
        y.ask(1);
        y.pass(2);
        CHECK.is("33: asked by itself", y.days(1), 17);
    }

    private static void promise33Closed() {
        GrievanceOmbud x = Scene.decided(10, 2, 1);
        x.pass(3);
        x.heed(0);
        x.pass(50);
        CHECK.is("33: to the closing", x.days(0), 13);
        CHECK.is("33: joined, to the lead's closing", x.days(1), 13);
        GrievanceOmbud y = Scene.received(10, 1);
        y.pass(2);
        y.withdraw(0);
        y.pass(50);
        CHECK.is("33: withdrawn", y.days(0), 12);
        GrievanceOmbud z = new GrievanceOmbud();
        z.addOffice(10, 0);
        z.complain(0, 0, 0, 0);
        z.pass(8);
        z.examine(0);
        z.pass(50);
        CHECK.is("33: outside", z.days(0), 8);
    }

    private static void promise34() {
        GrievanceOmbud x = Scene.office(5);
        x.addOffice(5, 1);
        for (int i = 0; i < 7; i++) {
            x.complain(i == 6 ? 1 : 0, 0, 0, 0);
            x.takeStep(i);
        }
        x.pass(5);
        for (int i = 0; i < 7; i++) {
            x.examine(i);
        }
        CHECK.fails("34: -1", x, Check.NO_SUCH, () -> x.heededShare(-1));
        CHECK.fails("34: 2", x, Check.NO_SUCH, () -> x.heededShare(2));
        x.join(1, 0);
        for (int i = 0; i < 7; i++) {
            if (i != 1) {
                x.ask(i);
                x.answer(i);
            }
        }
        x.find(5, 0);
        CHECK.fails("34: unfounded is no remedy", x, Check.NONE_TO_DIVIDE_BY, () -> x.heededShare(0));
        x.find(0, 1);
        CHECK.is("34: none heeded", x.heededShare(0), 0f);
        CHECK.fails("34: none told to another", x, Check.NONE_TO_DIVIDE_BY, () -> x.heededShare(1));
        x.find(2, 1);
        x.heed(2);
        CHECK.is("34: one of three", x.heededShare(0), 1f / 3f);
        x.pass(31);
        x.followUp(0);
        CHECK.is("34: however often it is followed up", x.heededShare(0), 1f / 3f);
        x.heed(0);
        CHECK.is("34: a joined one counts", x.heededShare(0), 1f);
        x.find(3, 1);
        x.pass(31);
        x.followUp(3);
        x.pass(61);
        x.followUp(3);
        CHECK.is("34: ignored", x.heededShare(0), 3f / 4f);
        x.find(6, 1);
        x.heed(6);
        CHECK.is("34: another office", x.heededShare(1), 1f);
    }

    private static void promise34Withdrawn() {
        GrievanceOmbud x = Scene.decided(5, 3, 1);
        x.withdraw(0);
        CHECK.is("34: told stays told", x.heededShare(0), 0f);
        x.ask(1);
        x.answer(1);
        x.find(1, 1);
        x.heed(1);
        CHECK.is("34: told anew", x.heededShare(0), 1f / 4f);
    }

    private static void promise35() {
        GrievanceOmbud x = Scene.received(5, 5);
        CHECK.fails("35: none closed", x, Check.NONE_TO_DIVIDE_BY, x::meanDays);
        x.withdraw(0);
        CHECK.is("35: one", x.meanDays(), 5.0);
        x.pass(3);
        x.withdraw(1);
        CHECK.is("35: two", x.meanDays(), 6.5);
        x.ask(2);
        x.pass(10);
        x.join(3, 2);
        x.answer(2);
        x.pass(3);
        x.find(2, 0);
        CHECK.is("35: less the days on which one was asked, joined ones too", x.meanDays(),
                (5.0 + 8.0 + 11.0 + 21.0) / 4.0);
        x.complain(0, 0, 0, 0);
        x.setCourt(5, true);
        x.examine(5);
        x.pass(100);
        CHECK.is("35: five, those open do not count", x.meanDays(), 45.0 / 5.0);
    }

    private static void promise36() {
        GrievanceOmbud x = new GrievanceOmbud();
        x.pass(9);
        CHECK.is("36: the day", x.checksum(), 7 * 31 + 9);
        x.addOffice(3, 1023);
        CHECK.is("36: offices do not count", x.checksum(), 7 * 31 + 9);
        x.complain(0, 0, 0, 0);
        x.complain(0, 0, 0, 0);
        x.takeStep(1);
        x.pass(4);
        x.examine(1);
        long due = 7;
        due = 31 * due + 'n';
        due = 31 * due + 4;
        due = 31 * due + 'r';
        due = 31 * due + 4;
        due = 31 * due + 13;
        CHECK.is("36: two", x.checksum(), due);
        for (int i = 2; i < 20; i++) {
            x.complain(0, 0, 0, 0);
        }
        due = (due - 13) / 31;
        for (int i = 2; i < 20; i++) {
            due = 31 * (31 * due + 'n');
        }
        CHECK.is("36: twenty, with the wrap-around of a long", x.checksum(), 31 * due + 13);
    }

    private static void promise37() {
        GrievanceOmbud x = new GrievanceOmbud();
        CHECK.is("37: new", x.isSound(), true);
        GrievanceOmbud y = Scene.silent(5, 4);
        y.join(1, 0);
        CHECK.is("37: joined", y.isSound(), true);
        CHECK.is("37: twice", y.isSound(), true);
        y.takeSilence(0);
        y.setWeight(0, 9);
        y.find(0, 6);
        y.accept(0, true);
        CHECK.is("37: accepted", y.isSound(), true);
        y.pass(400);
        y.followUp(0);
        CHECK.is("37: followed up", y.isSound(), true);
        String before = Check.dump(y);
        CHECK.is("37: again", y.isSound(), true);
        CHECK.is("37: changes nothing", Check.dump(y), before);
    }

    /** What is told last must not be there yet when all is told again from the beginning. */
    private static void promise37ToldOverAndOver() {
        GrievanceOmbud x = Scene.decided(5, 2, 31);
        sound("a finding", x);
        for (int head = 0; head < 5; head++) {
            x.setWeight(head, 9);
        }
        sound("weights set behind the finding", x);
        x.complain(0, 0, 0, 0);
        x.examine(2);
        x.setCourt(2, true);
        sound("a court behind the intake", x);
        x.setCourt(2, false);
        x.takeStep(2);
        x.excuse(2);
        sound("a first step behind the intake", x);
        x.accept(0, true);
        x.pass(61);
        x.followUp(0);
        sound("followed up", x);
        x.examine(2);
        x.ask(2);
        x.extend(2, 30);
        x.pass(36);
        x.remind(2);
        sound("asked", x);
        x.heed(0);
        x.withdraw(2);
        sound("closed", x);
    }

    private static void sound(String when, GrievanceOmbud x) {
        CHECK.is("37: " + when, x.isSound(), true);
        CHECK.is("37: " + when + ", once more", x.isSound(), true);
    }

    /** The face leads to no unsound object, so each rule is broken from behind. */
    private static void promise37Tampered() throws ReflectiveOperationException {
        String[] numbers = {"office", "matter", "person", "happened", "toldDay", "stepDay", "closedDay",
            "lead", "pausedSince", "pausedDays"};
        for (String name : numbers) {
            for (int complaint = 0; complaint < 2; complaint++) {
                GrievanceOmbud x = Scene.decided(5, 2, 0);
                set(row(x, "complaints", complaint), name, 77);
                CHECK.is("37: " + name + " of " + complaint, x.isSound(), false);
            }
        }
        tamperedParts();
        GrievanceOmbud x = Scene.studied(5, 2);
        set(row(x, "complaints", 1), "state", 'r');
        CHECK.is("37: a joined one stands elsewhere", x.isSound(), false);
        GrievanceOmbud y = Scene.decided(5, 1, 0);
        set(row(y, "complaints", 0), "closedDay", -1);
        CHECK.is("37: no day of closing", y.isSound(), false);
        CHECK.is("37: no day of closing, though nothing were told again", isOrderly(y), false);
        for (String name : new String[] {"days", "matters", "remediesTold", "remediesHeeded"}) {
            GrievanceOmbud z = Scene.decided(5, 1, 1);
            set(row(z, "offices", 0), name, 2);
            CHECK.is("37: an office's " + name, z.isSound(), false);
        }
        for (String name : new String[] {"day", "officeCount", "complaintCount"}) {
            GrievanceOmbud z = Scene.received(5, 2);
            set(get(z, "book"), name, 0);
            CHECK.is("37: " + name, z.isSound(), false);
        }
        for (int head = 0; head < 5; head++) {
            GrievanceOmbud v = new GrievanceOmbud();
            Array.set(get(get(v, "book"), "weights"), head, 2);
            CHECK.is("37: the weight of " + head, v.isSound(), false);
        }
    }

    private static void tamperedParts() throws ReflectiveOperationException {
        String[] numbers = {"inquiry.due", "inquiry.reminders", "finding.heads", "finding.remedy", "finding.heedBy"};
        for (String name : numbers) {
            tamperPart(name, 77);
        }
        String[] signs = {"inquiry.extended", "inquiry.silent", "finding.followed", "finding.acceptanceTold",
            "finding.accepted"};
        for (String name : signs) {
            tamperPart(name, true);
        }
    }

    private static void tamperPart(String name, Object value) throws ReflectiveOperationException {
        int dot = name.indexOf('.');
        GrievanceOmbud x = Scene.decided(5, 1, 0);
        set(get(row(x, "complaints", 0), name.substring(0, dot)), name.substring(dot + 1), value);
        CHECK.is("37: " + name, x.isSound(), false);
    }

    /** The event is changed along with what stands, so that only the look at leads can tell. */
    private static void promise37TamperedTwice() throws ReflectiveOperationException {
        for (String name : new String[] {"office", "matter"}) {
            for (int joined = 0; joined < 2; joined++) {
                GrievanceOmbud x = new GrievanceOmbud();
                x.addOffice(5, 1023);
                x.addOffice(5, 1023);
                x.complain(0, 0, 0, 0);
                x.complain(0, 0, 1, 0);
                x.takeStep(0);
                x.takeStep(1);
                x.pass(5);
                x.examine(0);
                x.examine(1);
                x.join(joined, 1 - joined);
                set(row(x, "complaints", joined), name, 1);
                int at = (2 + joined) * 5 + (name.equals("office") ? 1 : 2);
                Array.set(get(get(x, "events"), "rows"), at, 1);
                CHECK.is("37: another " + name + " than the lead's", x.isSound(), false);
            }
        }
    }

    /** Six offices and twenty complaints: no loop may go beyond the last. */
    private static void fullHouse() {
        GrievanceOmbud x = Scene.received(5, 20);
        for (int i = 1; i < 6; i++) {
            x.addOffice(5, 1);
        }
        for (int i = 0; i < 19; i++) {
            CHECK.is("full: joined", x.join(i, 19), i + 1);
        }
        CHECK.is("full: received", x.countState('r'), 20);
        CHECK.is("full: one of the last person", x.countOf(19), 1);
        CHECK.is("full: asked", x.ask(19), 10);
        CHECK.is("full: next", x.nextDue(), 10);
        x.answer(19);
        CHECK.is("full: 5 at most", x.find(19, 1), 2);
        CHECK.is("full: left", x.heed(19), 60);
        CHECK.is("full: share", x.heededShare(0), 1f);
        CHECK.is("full: mean", x.meanDays(), 5.0);
        CHECK.is("full: sound", x.isSound(), true);
        GrievanceOmbud y = Scene.received(5, 20);
        for (int i = 0; i < 19; i++) {
            y.join(i, 19);
        }
        CHECK.is("full: freed", y.withdraw(19), 19);
    }

    /** Far more calls than an object is used for: their answers are free, but none may throw by itself. */
    private static void limits() {
        GrievanceOmbud x = Scene.received(5, 2);
        for (int i = 0; i < 1000; i++) {
            x.join(1, 0);
            x.part(1);
            x.setWeight(0, 1 + i % 9);
        }
        x.isSound();
        CHECK.is("behind the 512th call", x.state(1), 'r');
        GrievanceOmbud y = Scene.received(5, 2);
        for (int i = 0; i < 500; i++) {
            y.setWeight(i % 5, 1 + i % 9);
        }
        CHECK.is("some 507 events", y.isSound(), true);
        GrievanceOmbud z = new GrievanceOmbud();
        for (int i = 0; i < 511; i++) {
            z.setWeight(i % 5, 1 + i % 9);
        }
        CHECK.is("the 512th call", z.isSound(), true);
        try {
            z.nextDue();
        } catch (NoSuchElementException e) {
            CHECK.is("and one behind it", z.today(), 0);
        }
    }

    /** The part of isSound that tells nothing again: no run of calls, and no change of one row, gets by the rest. */
    private static boolean isOrderly(GrievanceOmbud x) throws ReflectiveOperationException {
        Object book = get(x, "book");
        Method method = book.getClass().getDeclaredMethod("isOrderly");
        method.setAccessible(true);
        return (Boolean) method.invoke(book);
    }

    private static Object row(GrievanceOmbud x, String rows, int number) throws ReflectiveOperationException {
        return Array.get(get(get(x, "book"), rows), number);
    }

    private static Object get(Object x, String name) throws ReflectiveOperationException {
        Field field = x.getClass().getDeclaredField(name);
        field.setAccessible(true);
        return field.get(x);
    }

    private static void set(Object x, String name, Object value) throws ReflectiveOperationException {
        Field field = x.getClass().getDeclaredField(name);
        field.setAccessible(true);
        field.set(x, value);
    }
}
