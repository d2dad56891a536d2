/**
 * "If several exceptions apply, the one that is documented first is thrown": each pair of "Throws" lines, and each
 * three of them, that can apply to one call at once. Each such line alone stands in the tests of its promise.
 */
public final class PairsTest {
    private static final Check CHECK = new Check("PairsTest");
    private static final int LEAST = Integer.MIN_VALUE;
    private static final int MOST = Integer.MAX_VALUE;

    public static void main(String[] args) {
        p2RangeAheadOfFull();
        p3RangeAheadOfTheLastDay();
        p5NoOfficeAheadOfRange();
        p5NoOfficeAheadOfFull();
        p5RangeAheadOfFull();
        p14NoComplaintAheadOfRange();
        p14RangeAheadOfWhereItStands();
        p14RangeAheadOfOverdueAndExtended();
        p20NoComplaintAheadOfTheSame();
        p20NoComplaintAheadOfWhereTheOtherStands();
        p20TheSameAheadOfWhereItStands();
        p25NoComplaintAheadOfRange();
        p25RangeAheadOfWhereItStands();
        CHECK.end();
    }

    private static void p2RangeAheadOfFull() {
        GrievanceOmbud x = new GrievanceOmbud();
        for (int i = 0; i < 6; i++) {
            x.addOffice(1, 1);
        }
        for (int days : new int[] {0, 61, -1, LEAST, MOST}) {
            CHECK.fails("2: days " + days + ", and full", x, Check.RANGE, () -> x.addOffice(days, 1));
        }
        for (int matters : new int[] {-1, 1024, LEAST, MOST}) {
            CHECK.fails("2: matters " + matters + ", and full", x, Check.RANGE, () -> x.addOffice(1, matters));
        }
        CHECK.fails("2: both, and full", x, Check.RANGE, () -> x.addOffice(61, 1024));
        CHECK.fails("2: full alone", x, Check.FULL, () -> x.addOffice(60, 1023));
    }

    private static void p3RangeAheadOfTheLastDay() {
        for (int day : new int[] {9600, 9998, 9999}) {
            GrievanceOmbud x = new GrievanceOmbud();
            Scene.until(x, day);
            CHECK.fails("3: 401 days, on day " + day, x, Check.RANGE, () -> x.pass(401));
            CHECK.fails("3: most days, on day " + day, x, Check.RANGE, () -> x.pass(MOST));
            CHECK.fails("3: day 10000 alone, on day " + day, x, Check.FULL, () -> x.pass(10000 - day));
            CHECK.fails("3: no days, on day " + day, x, Check.RANGE, () -> x.pass(0));
            CHECK.fails("3: least days, on day " + day, x, Check.RANGE, () -> x.pass(LEAST));
        }
    }

    private static void p5NoOfficeAheadOfRange() {
        GrievanceOmbud x = Scene.office(1);
        x.pass(3);
        for (int office : new int[] {-1, 1}) {
            for (int matter : new int[] {-1, 10}) {
                CHECK.fails("5: no office, matter", x, Check.NO_SUCH, () -> x.complain(office, matter, 0, 0));
            }
            for (int person : new int[] {-1, 50}) {
                CHECK.fails("5: no office, person", x, Check.NO_SUCH, () -> x.complain(office, 0, person, 0));
            }
            for (int happened : new int[] {-1, 4}) {
                CHECK.fails("5: no office, happened", x, Check.NO_SUCH, () -> x.complain(office, 0, 0, happened));
            }
            CHECK.fails("5: no office, and no number right", x, Check.NO_SUCH, () -> x.complain(office, 10, 50, 4));
        }
    }

    private static void p5NoOfficeAheadOfFull() {
        GrievanceOmbud x = fullOfComplaints();
        for (int office : new int[] {-1, 1, LEAST, MOST}) {
            CHECK.fails("5: no office, and full", x, Check.NO_SUCH, () -> x.complain(office, 0, 0, 0));
            CHECK.fails("5: no office, range, and full", x, Check.NO_SUCH, () -> x.complain(office, 10, -1, 9));
        }
    }

    private static void p5RangeAheadOfFull() {
        GrievanceOmbud x = fullOfComplaints();
        for (int matter : new int[] {-1, 10, LEAST, MOST}) {
            CHECK.fails("5: matter " + matter + ", and full", x, Check.RANGE, () -> x.complain(0, matter, 0, 0));
        }
        for (int person : new int[] {-1, 50, LEAST, MOST}) {
            CHECK.fails("5: person " + person + ", and full", x, Check.RANGE, () -> x.complain(0, 0, person, 0));
        }
        for (int happened : new int[] {-1, 4, LEAST, MOST}) {
            CHECK.fails("5: happened " + happened + ", and full", x, Check.RANGE, () -> x.complain(0, 0, 0, happened));
        }
        CHECK.fails("5: full alone", x, Check.FULL, () -> x.complain(0, 9, 49, 3));
    }

    private static GrievanceOmbud fullOfComplaints() {
        GrievanceOmbud x = Scene.office(1);
        x.pass(3);
        for (int i = 0; i < 20; i++) {
            x.complain(0, 0, 0, 0);
        }
        return x;
    }

    private static void p14NoComplaintAheadOfRange() {
        GrievanceOmbud x = Scene.asked(5, 1);
        for (int complaint : new int[] {-1, 1, 20, LEAST, MOST}) {
            for (int days : new int[] {0, 31, -1, LEAST, MOST}) {
                CHECK.fails("14: none, days " + days, x, Check.NO_SUCH, () -> x.extend(complaint, days));
            }
        }
    }

    private static void p14RangeAheadOfWhereItStands() {
        for (char state : "nfrsdoluhiw".toCharArray()) {
            GrievanceOmbud x = Standing.as(state);
            CHECK.fails("14: 0 days, as " + state, x, Check.RANGE, () -> x.extend(0, 0));
            CHECK.fails("14: 31 days, as " + state, x, Check.RANGE, () -> x.extend(0, 31));
            CHECK.fails("14: only as " + state, x, Check.NOT_SO, () -> x.extend(0, 30));
        }
        for (char state : "rasduhi".toCharArray()) {
            GrievanceOmbud x = Standing.behind(state);
            CHECK.fails("14: 0 days, joined to " + state, x, Check.RANGE, () -> x.extend(1, 0));
            CHECK.fails("14: 31 days, joined to " + state, x, Check.RANGE, () -> x.extend(1, 31));
            CHECK.fails("14: only joined to " + state, x, Check.NOT_SO, () -> x.extend(1, 1));
        }
    }

    private static void p14RangeAheadOfOverdueAndExtended() {
        GrievanceOmbud x = Scene.asked(5, 1);
        x.extend(0, 1);
        CHECK.fails("14: 0 days, extended", x, Check.RANGE, () -> x.extend(0, 0));
        CHECK.fails("14: 31 days, extended", x, Check.RANGE, () -> x.extend(0, 31));
        x.pass(7);
        CHECK.fails("14: 31 days, extended and overdue", x, Check.RANGE, () -> x.extend(0, 31));
        GrievanceOmbud y = Scene.asked(5, 1);
        y.pass(6);
        CHECK.fails("14: 0 days, overdue", y, Check.RANGE, () -> y.extend(0, 0));
        CHECK.fails("14: 31 days, overdue", y, Check.RANGE, () -> y.extend(0, 31));
    }

    private static void p20NoComplaintAheadOfTheSame() {
        GrievanceOmbud x = Scene.received(5, 3);
        for (int none : new int[] {-1, 3, 20, LEAST, MOST}) {
            CHECK.fails("20: " + none + " for both", x, Check.NO_SUCH, () -> x.join(none, none));
        }
    }

    private static void p20NoComplaintAheadOfWhereTheOtherStands() {
        for (char state : "nfrasdoluhiw".toCharArray()) {
            GrievanceOmbud x = Standing.as(state);
            int behindLast = Standing.COMPLAINTS;
            CHECK.fails("20: to none, as " + state, x, Check.NO_SUCH, () -> x.join(0, behindLast));
            CHECK.fails("20: to -1, as " + state, x, Check.NO_SUCH, () -> x.join(0, -1));
            CHECK.fails("20: none, to one as " + state, x, Check.NO_SUCH, () -> x.join(behindLast, 0));
            CHECK.fails("20: -1, to one as " + state, x, Check.NO_SUCH, () -> x.join(-1, 0));
        }
        GrievanceOmbud y = Standing.behind('r');
        CHECK.fails("20: a joined one to none", y, Check.NO_SUCH, () -> y.join(1, -1));
        CHECK.fails("20: a lead to none", y, Check.NO_SUCH, () -> y.join(0, -1));
        CHECK.fails("20: none to a joined one", y, Check.NO_SUCH, () -> y.join(-1, 1));
    }

    private static void p20TheSameAheadOfWhereItStands() {
        for (char state : "nfrasdoluhiw".toCharArray()) {
            GrievanceOmbud x = Standing.as(state);
            CHECK.fails("20: the same, as " + state, x, Check.RANGE, () -> x.join(0, 0));
        }
        for (char state : "rasduhi".toCharArray()) {
            GrievanceOmbud x = Standing.behind(state);
            CHECK.fails("20: the same, joined to " + state, x, Check.RANGE, () -> x.join(1, 1));
            CHECK.fails("20: the same, lead as " + state, x, Check.RANGE, () -> x.join(0, 0));
        }
    }

    private static void p25NoComplaintAheadOfRange() {
        GrievanceOmbud x = Scene.studied(5, 1);
        for (int complaint : new int[] {-1, 1, 20, LEAST, MOST}) {
            for (int heads : new int[] {-1, 32, LEAST, MOST}) {
                CHECK.fails("25: none, heads " + heads, x, Check.NO_SUCH, () -> x.find(complaint, heads));
            }
        }
    }

    private static void p25RangeAheadOfWhereItStands() {
        for (char state : "nfradoluhiw".toCharArray()) {
            GrievanceOmbud x = Standing.as(state);
            CHECK.fails("25: heads -1, as " + state, x, Check.RANGE, () -> x.find(0, -1));
            CHECK.fails("25: heads 32, as " + state, x, Check.RANGE, () -> x.find(0, 32));
            CHECK.fails("25: only as " + state, x, Check.NOT_SO, () -> x.find(0, 31));
        }
        for (char state : "rasduhi".toCharArray()) {
            GrievanceOmbud x = Standing.behind(state);
            CHECK.fails("25: heads -1, joined to " + state, x, Check.RANGE, () -> x.find(1, -1));
            CHECK.fails("25: heads 32, joined to " + state, x, Check.RANGE, () -> x.find(1, 32));
            CHECK.fails("25: only joined to " + state, x, Check.NOT_SO, () -> x.find(1, 0));
        }
    }
}
