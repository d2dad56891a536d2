/** Promises 1 to 5 at their edges: above each method stands the sentence of the document that it tests. */
public final class OfficesEdgesTest {
    private static final Check CHECK = new Check("OfficesEdgesTest");
    private static final int LEAST = Integer.MIN_VALUE;
    private static final int MOST = Integer.MAX_VALUE;

    public static void main(String[] args) {
        p1NothingAtFirst();
        p1NoCallFindsAComplaint();
        p1EachObjectHasItsOwn();
        p2Days();
        p2Matters();
        p2MattersAsBits();
        p2SixAtMost();
        p3Days();
        p3FromEachDayOn();
        p3LastDay();
        p4Today();
        p5Matters();
        p5Persons();
        p5Happened();
        p5HappenedOnTheLastDay();
        p5TwentyAtMost();
        p5IsNew();
        p5ToldOnTheDayOfNow();
        CHECK.end();
    }

    /** "Creates an office hour without offices and complaints, on the day 0." */
    private static void p1NothingAtFirst() {
        GrievanceOmbud x = new GrievanceOmbud();
        CHECK.is("1: the day", x.today(), 0);
        for (char state : Standing.ALL.toCharArray()) {
            CHECK.is("1: complaints as " + state, x.countState(state), 0);
        }
        for (int person = 0; person < 50; person++) {
            CHECK.is("1: complaints of " + person, x.countOf(person), 0);
        }
        CHECK.fails("1: nothing is due", x, Check.NONE, x::nextDue);
        CHECK.fails("1: nothing is closed", x, Check.NONE_TO_DIVIDE_BY, x::meanDays);
        CHECK.fails("1: no office", x, Check.NO_SUCH, () -> x.heededShare(0));
        CHECK.fails("1: no office to complain of", x, Check.NO_SUCH, () -> x.complain(0, 0, 0, 0));
        CHECK.is("1: the sum", x.checksum(), 217);
        CHECK.is("1: sound", x.isSound(), true);
        CHECK.is("1: the first office is 0", x.addOffice(1, 1), 0);
        CHECK.is("1: the first complaint is 0", x.complain(0, 0, 0, 0), 0);
    }

    /** "without offices and complaints" */
    private static void p1NoCallFindsAComplaint() {
        GrievanceOmbud x = new GrievanceOmbud();
        Calls.ALL.forEach((name, call) -> CHECK.fails("1: " + name, x, Check.NO_SUCH, () -> call.on(x, 0, 1)));
        x.addOffice(1, 1);
        Calls.ALL.forEach((name, call) -> CHECK.fails("1: then " + name, x, Check.NO_SUCH, () -> call.on(x, 0, 1)));
    }

    /** What one object is told, another one does not know. */
    private static void p1EachObjectHasItsOwn() {
        GrievanceOmbud x = Scene.decided(5, 3, 2);
        x.setWeight(0, 9);
        GrievanceOmbud y = new GrievanceOmbud();
        CHECK.is("1: another one's sum", y.checksum(), 217);
        CHECK.is("1: another one's weight", y.setWeight(0, 1), 1);
        CHECK.is("1: another one's office", y.addOffice(1, 1), 0);
        CHECK.is("1: the one's state", x.state(0), 'd');
        CHECK.is("1: the one is sound", x.isSound(), true);
    }

    /** "days: 1 to 60" */
    private static void p2Days() {
        for (int days = 1; days <= 60; days++) {
            GrievanceOmbud x = Scene.office(days);
            x.complain(0, 0, 0, 0);
            CHECK.is("2: an office with days " + days, x.takeStep(0), days);
        }
        GrievanceOmbud y = new GrievanceOmbud();
        for (int days : new int[] {0, 61, -1, 62, LEAST, MOST}) {
            CHECK.fails("2: days " + days, y, Check.RANGE, () -> y.addOffice(days, 1));
        }
        CHECK.is("2: a refused one takes no number", y.addOffice(1, 1), 0);
        CHECK.fails("2: no days, behind one that was taken", y, Check.RANGE, () -> y.addOffice(0, 1));
        CHECK.is("2: and the next number", y.addOffice(60, 1), 1);
    }

    /** "matters: 0 to 1023" */
    private static void p2Matters() {
        for (int matters = 0; matters <= 1023; matters++) {
            CHECK.is("2: matters " + matters, new GrievanceOmbud().addOffice(1, matters), 0);
        }
        GrievanceOmbud x = new GrievanceOmbud();
        for (int matters : new int[] {-1, 1024, 1025, 2047, LEAST, MOST}) {
            CHECK.fails("2: matters " + matters, x, Check.RANGE, () -> x.addOffice(1, matters));
        }
        CHECK.fails("2: neither number right", x, Check.RANGE, () -> x.addOffice(0, -1));
        CHECK.is("2: a refused one takes no number", x.addOffice(1, 0), 0);
    }

    /** "and the matters, 0 to 9, that are within reach, as bits" */
    private static void p2MattersAsBits() {
        for (int bit = 0; bit <= 9; bit++) {
            GrievanceOmbud only = reach(1 << bit);
            GrievanceOmbud allBut = reach(1023 - (1 << bit));
            for (int matter = 0; matter <= 9; matter++) {
                CHECK.is("2: only " + bit + ", of " + matter, only.examine(matter), matter == bit ? 'f' : 'o');
                CHECK.is("2: all but " + bit + ", of " + matter, allBut.examine(matter), matter == bit ? 'o' : 'f');
            }
        }
        GrievanceOmbud none = reach(0);
        GrievanceOmbud all = reach(1023);
        for (int matter = 0; matter <= 9; matter++) {
            CHECK.is("2: none, of " + matter, none.examine(matter), 'o');
            CHECK.is("2: all, of " + matter, all.examine(matter), 'f');
        }
    }

    /** One complaint of each matter, numbered as that, against an office with these within reach. */
    private static GrievanceOmbud reach(int matters) {
        GrievanceOmbud x = new GrievanceOmbud();
        x.addOffice(1, matters);
        for (int matter = 0; matter <= 9; matter++) {
            x.complain(0, matter, 0, 0);
        }
        return x;
    }

    /** "Throws IllegalStateException if there are 6"; "At most 6 are numbered from 0" */
    private static void p2SixAtMost() {
        GrievanceOmbud x = new GrievanceOmbud();
        for (int i = 0; i < 6; i++) {
            CHECK.is("2: office", x.addOffice(i + 1, 1), i);
        }
        CHECK.fails("2: a seventh", x, Check.FULL, () -> x.addOffice(1, 0));
        CHECK.fails("2: a seventh, once more", x, Check.FULL, () -> x.addOffice(60, 1023));
        for (int i = 0; i < 6; i++) {
            CHECK.is("2: against each", x.complain(i, 0, 0, 0), i);
            CHECK.is("2: each has its own days", x.takeStep(i), i + 1);
        }
        CHECK.fails("2: none is the seventh", x, Check.NO_SUCH, () -> x.complain(6, 0, 0, 0));
        CHECK.is("2: sound", x.isSound(), true);
    }

    /** "days: 1 to 400"; "Returns the day." */
    private static void p3Days() {
        for (int days = 1; days <= 400; days++) {
            GrievanceOmbud x = new GrievanceOmbud();
            CHECK.is("3: days " + days, x.pass(days), days);
            CHECK.is("3: and then it is", x.today(), days);
        }
        GrievanceOmbud y = new GrievanceOmbud();
        for (int days : new int[] {0, 401, -1, 402, 9999, 10000, LEAST, MOST}) {
            CHECK.fails("3: days " + days, y, Check.RANGE, () -> y.pass(days));
        }
        CHECK.is("3: still the day 0", y.today(), 0);
    }

    /** "Days are numbered from 0 to 9999": each day is reached by single days, too. */
    private static void p3FromEachDayOn() {
        GrievanceOmbud x = new GrievanceOmbud();
        for (int day = 1; day <= 500; day++) {
            CHECK.is("3: one more", x.pass(1), day);
        }
    }

    /** "Throws IllegalStateException if it would be above 9999" */
    private static void p3LastDay() {
        int[] days = {9599, 9600, 9998, 9999};
        for (int day : days) {
            for (int more : new int[] {1, 2, 398, 399, 400}) {
                GrievanceOmbud x = new GrievanceOmbud();
                Scene.until(x, day);
                String what = "3: " + more + " days on day " + day;
                if (day + more <= 9999) {
                    CHECK.is(what, x.pass(more), day + more);
                } else {
                    CHECK.fails(what, x, Check.FULL, () -> x.pass(more));
                    CHECK.is(what + ", the day of now", x.today(), day);
                }
            }
        }
    }

    /** "Returns the day." */
    private static void p4Today() {
        GrievanceOmbud x = new GrievanceOmbud();
        CHECK.is("4: at first", x.today(), 0);
        x.addOffice(1, 1);
        x.complain(0, 0, 0, 0);
        CHECK.is("4: no other call lets days pass", x.today(), 0);
        x.pass(1);
        CHECK.is("4: the day 1", x.today(), 1);
        CHECK.fails("4: refused", x, Check.RANGE, () -> x.pass(0));
        CHECK.is("4: the day 1 still", x.today(), 1);
        Scene.until(x, 9999);
        CHECK.is("4: the last day", x.today(), 9999);
    }

    /** "matter: 0 to 9" */
    private static void p5Matters() {
        GrievanceOmbud x = Scene.office(1);
        for (int matter = 0; matter <= 9; matter++) {
            CHECK.is("5: matter " + matter, x.complain(0, matter, 0, 0), matter);
        }
        for (int matter : new int[] {-1, 10, 11, LEAST, MOST}) {
            CHECK.fails("5: matter " + matter, x, Check.RANGE, () -> x.complain(0, matter, 0, 0));
        }
        CHECK.is("5: a refused one takes no number", x.complain(0, 0, 0, 0), 10);
    }

    /** "person: 0 to 49" */
    private static void p5Persons() {
        GrievanceOmbud x = null;
        for (int person = 0; person <= 49; person++) {
            if (person % 20 == 0) {
                x = Scene.office(1);
            }
            CHECK.is("5: person " + person, x.complain(0, 0, person, 0), person % 20);
            CHECK.is("5: told by " + person, x.countOf(person), 1);
        }
        GrievanceOmbud y = Scene.office(1);
        for (int person : new int[] {-1, 50, 51, LEAST, MOST}) {
            CHECK.fails("5: person " + person, y, Check.RANGE, () -> y.complain(0, 0, person, 0));
        }
        CHECK.is("5: a refused one takes no number", y.complain(0, 0, 0, 0), 0);
    }

    /** "happened: the day on which it happened", "from 0 to that of now" */
    private static void p5Happened() {
        for (int day : new int[] {0, 1, 2, 365, 366, 9998}) {
            GrievanceOmbud x = Scene.office(1);
            Scene.until(x, day);
            CHECK.is("5: of the first day, on day " + day, x.complain(0, 0, 0, 0), 0);
            CHECK.is("5: of that day, on day " + day, x.complain(0, 0, 0, day), 1);
            CHECK.is("5: of the day before, on day " + day, x.complain(0, 0, 0, Math.max(0, day - 1)), 2);
            for (int happened : new int[] {-1, day + 1, day + 2, 10000, LEAST, MOST}) {
                CHECK.fails("5: of " + happened + ", on day " + day, x, Check.RANGE,
                        () -> x.complain(0, 0, 0, happened));
            }
            x.pass(1);
            CHECK.is("5: that was the next day, on the next day", x.complain(0, 0, 0, day + 1), 3);
        }
    }

    /** "from 0 to that of now", "Days are numbered from 0 to 9999" */
    private static void p5HappenedOnTheLastDay() {
        GrievanceOmbud x = Scene.office(1);
        Scene.until(x, 9999);
        CHECK.is("5: of the last day", x.complain(0, 0, 0, 9999), 0);
        CHECK.is("5: of the day before", x.complain(0, 0, 0, 9998), 1);
        CHECK.is("5: of the first day", x.complain(0, 0, 0, 0), 2);
        CHECK.fails("5: of the day 10000", x, Check.RANGE, () -> x.complain(0, 0, 0, 10000));
        CHECK.is("5: sound", x.isSound(), true);
    }

    /** "Throws IllegalStateException if there are 20"; "At most 20 are numbered from 0" */
    private static void p5TwentyAtMost() {
        GrievanceOmbud x = Scene.office(1);
        x.addOffice(2, 0);
        for (int i = 0; i < 20; i++) {
            CHECK.is("5: complaint", x.complain(i % 2, i % 10, i, 0), i);
        }
        CHECK.fails("5: a further one", x, Check.FULL, () -> x.complain(0, 0, 0, 0));
        CHECK.fails("5: a further one, against another office", x, Check.FULL, () -> x.complain(1, 9, 49, 0));
        x.withdraw(19);
        x.withdraw(0);
        CHECK.fails("5: closed ones count", x, Check.FULL, () -> x.complain(0, 0, 0, 0));
        CHECK.is("5: all but two are new", x.countState('n'), 18);
        CHECK.is("5: the last one was against 1, of which nothing is within reach", x.examine(17), 'o');
        CHECK.is("5: the one before was against 0", x.examine(16), 'f');
        CHECK.is("5: sound", x.isSound(), true);
    }

    /** "It is 'n' new at first."; "each against an office, of a matter, of a person" */
    private static void p5IsNew() {
        GrievanceOmbud x = new GrievanceOmbud();
        x.addOffice(1, 0);
        x.pass(400);
        for (int i = 0; i < 20; i++) {
            x.complain(0, 0, 0, 0);
            CHECK.is("5: new, though outside, late, and without its first step", x.state(i), 'n');
            CHECK.is("5: leads itself", x.lead(i), i);
            CHECK.is("5: none is joined", x.countJoined(i), 0);
        }
        CHECK.is("5: no court has it", x.setCourt(0, false), false);
        CHECK.is("5: no reason was told", x.excuse(0), false);
        CHECK.is("5: no first step was told", x.takeStep(0), 401);
    }

    /** "it is told on the day of now" */
    private static void p5ToldOnTheDayOfNow() {
        GrievanceOmbud x = Scene.office(1);
        x.pass(7);
        x.complain(0, 0, 0, 0);
        CHECK.is("5: told just now, though it happened before", x.days(0), 0);
        x.pass(1);
        CHECK.is("5: told a day ago", x.days(0), 1);
        x.complain(0, 0, 0, 8);
        CHECK.is("5: another one just now", x.days(1), 0);
        CHECK.is("5: the first one still", x.days(0), 1);
    }
}
