/** Promises 6 to 12 at their edges: above each method stands the sentence of the document that it tests. */
public final class IntakeEdgesTest {
    private static final Check CHECK = new Check("IntakeEdgesTest");
    private static final int LEAST = Integer.MIN_VALUE;
    private static final int MOST = Integer.MAX_VALUE;

    public static void main(String[] args) {
        p6WhetherItHad();
        p6OfEachComplaintAlone();
        p6NotAnyMore();
        p6RefusedElsewhere();
        p7WhetherOneWasTold();
        p7ForGood();
        p7RefusedElsewhere();
        p8DaysGoneBy();
        p8OnTheLastDay();
        p8ToldOnce();
        p8RefusedElsewhere();
        p9Outside();
        p9LateByDays();
        p9LateByTheDayOfTelling();
        p9LateWithReason();
        p9StepLacks();
        p9StepDays();
        p9StepOnTheDayOfNow();
        p9FirstThatHolds();
        p9ExaminedAnew();
        p9RefusedElsewhere();
        p10EachState();
        p11EachState();
        p11NoSuchState();
        p11NoneAndAll();
        p11JoinedOnesToo();
        p12Persons();
        p12NoneAndAll();
        p12WhereverTheyStand();
        CHECK.end();
    }

    /** "Returns whether it had." */
    private static void p6WhetherItHad() {
        GrievanceOmbud x = Scene.office(1);
        x.complain(0, 0, 0, 0);
        boolean had = false;
        for (boolean has : new boolean[] {false, true, true, false, false, true, false}) {
            CHECK.is("6: whether it had", x.setCourt(0, has), had);
            had = has;
        }
        CHECK.is("6: stands as it did", x.state(0), 'n');
        CHECK.is("6: sound", x.isSound(), true);
    }

    /** "Tells whether a court has a complaint." */
    private static void p6OfEachComplaintAlone() {
        GrievanceOmbud x = Scene.office(1);
        for (int i = 0; i < 20; i++) {
            x.complain(0, 0, 0, 0);
        }
        x.setCourt(0, true);
        x.setCourt(19, true);
        for (int i = 0; i < 20; i++) {
            CHECK.is("6: of the complaint " + i, x.examine(i), i == 0 || i == 19 ? 'o' : 'f');
        }
    }

    /** "A court can be told to have it, or not any more" */
    private static void p6NotAnyMore() {
        GrievanceOmbud x = Scene.office(1);
        x.complain(0, 0, 0, 0);
        x.setCourt(0, true);
        x.setCourt(0, false);
        CHECK.is("6: not any more", x.examine(0), 'f');
        x.setCourt(0, true);
        CHECK.is("6: still 'f' before it is examined", x.state(0), 'f');
        x.setCourt(0, false);
        x.takeStep(0);
        x.pass(1);
        CHECK.is("6: not any more, once again", x.examine(0), 'r');
    }

    /** "Throws UnsupportedOperationException if it is neither new, nor lacks its first step" */
    private static void p6RefusedElsewhere() {
        for (char state : "rasdoluhiw".toCharArray()) {
            GrievanceOmbud x = Standing.as(state);
            CHECK.fails("6: has, as " + state, x, Check.NOT_SO, () -> x.setCourt(0, true));
            CHECK.fails("6: has not, as " + state, x, Check.NOT_SO, () -> x.setCourt(0, false));
        }
        CHECK.is("6: new", Standing.as('n').setCourt(0, true), false);
        CHECK.is("6: first step lacking", Standing.as('f').setCourt(0, true), false);
    }

    /** "Returns whether one was told." */
    private static void p7WhetherOneWasTold() {
        GrievanceOmbud x = Scene.office(1);
        x.complain(0, 0, 0, 0);
        x.complain(0, 0, 0, 0);
        CHECK.is("7: first", x.excuse(0), false);
        CHECK.is("7: second", x.excuse(0), true);
        CHECK.is("7: third", x.excuse(0), true);
        CHECK.is("7: of another one", x.excuse(1), false);
        CHECK.is("7: sound", x.isSound(), true);
    }

    /** "a reason for being late can be told, for good" */
    private static void p7ForGood() {
        GrievanceOmbud x = Scene.office(1);
        x.pass(400);
        x.complain(0, 0, 0, 0);
        x.excuse(0);
        x.excuse(0);
        CHECK.is("7: told twice", x.examine(0), 'f');
        x.pass(400);
        CHECK.is("7: told long ago", x.excuse(0), true);
        CHECK.is("7: examined again", x.examine(0), 'f');
    }

    /** "Throws UnsupportedOperationException if it is neither new, nor lacks its first step" */
    private static void p7RefusedElsewhere() {
        for (char state : "rasdoluhiw".toCharArray()) {
            GrievanceOmbud x = Standing.as(state);
            CHECK.fails("7: as " + state, x, Check.NOT_SO, () -> x.excuse(0));
        }
        CHECK.is("7: new", Standing.as('n').excuse(0), false);
        CHECK.is("7: first step lacking", Standing.as('f').excuse(0), false);
    }

    /** "Returns the day on which the office's days to answer have gone by." */
    private static void p8DaysGoneBy() {
        for (int days : new int[] {1, 2, 59, 60}) {
            for (int day : new int[] {0, 1, 100}) {
                GrievanceOmbud x = Scene.office(days);
                x.addOffice(30, 1);
                x.complain(0, 0, 0, 0);
                Scene.until(x, day);
                CHECK.is("8: " + days + " days, on day " + day, x.takeStep(0), day + days);
            }
        }
    }

    /** The same sentence on the last day there is. */
    private static void p8OnTheLastDay() {
        GrievanceOmbud x = Scene.office(60);
        Scene.until(x, 9999);
        x.complain(0, 0, 0, 9999);
        CHECK.is("8: beyond the last day", x.takeStep(0), 10059);
        CHECK.is("8: sound", x.isSound(), true);
    }

    /** "told once", "or one was told" */
    private static void p8ToldOnce() {
        GrievanceOmbud x = Scene.office(5);
        x.complain(0, 0, 0, 0);
        x.complain(0, 0, 0, 0);
        x.takeStep(0);
        CHECK.fails("8: twice on the day 0", x, Check.NOT_SO, () -> x.takeStep(0));
        x.examine(0);
        CHECK.fails("8: twice, first step lacking", x, Check.NOT_SO, () -> x.takeStep(0));
        x.pass(5);
        CHECK.fails("8: twice, days later", x, Check.NOT_SO, () -> x.takeStep(0));
        CHECK.is("8: of another one, once", x.takeStep(1), 10);
        CHECK.fails("8: of that one twice", x, Check.NOT_SO, () -> x.takeStep(1));
        CHECK.is("8: the first telling counts", x.examine(0), 'r');
    }

    /** "Throws UnsupportedOperationException if it is neither new, nor lacks its first step" */
    private static void p8RefusedElsewhere() {
        for (char state : "rasdoluhiw".toCharArray()) {
            GrievanceOmbud x = Standing.as(state);
            CHECK.fails("8: as " + state, x, Check.NOT_SO, () -> x.takeStep(0));
        }
        CHECK.is("8: new", Standing.as('n').takeStep(0), 10);
        CHECK.is("8: first step lacking", Standing.as('f').takeStep(0), 10);
    }

    /** "'o' outside, if the matter is not within reach, or a court has it" */
    private static void p9Outside() {
        GrievanceOmbud x = new GrievanceOmbud();
        x.addOffice(1, 1022);
        x.addOffice(1, 511);
        x.complain(0, 0, 0, 0);
        x.complain(0, 1, 0, 0);
        x.complain(1, 9, 0, 0);
        x.complain(1, 8, 0, 0);
        x.complain(1, 0, 0, 0);
        x.setCourt(4, true);
        x.complain(0, 0, 0, 0);
        x.setCourt(5, true);
        char[] due = {'o', 'f', 'o', 'f', 'o', 'o'};
        for (int i = 0; i < due.length; i++) {
            CHECK.is("9: outside or not, the complaint " + i, x.examine(i), due[i]);
            CHECK.is("9: and stands so", x.state(i), due[i]);
        }
    }

    /** "'l' late, if it was told more than 365 days behind the day on which it happened" */
    private static void p9LateByDays() {
        for (int day : new int[] {364, 365, 366, 367, 1000, 9999}) {
            GrievanceOmbud x = Scene.office(1);
            Scene.until(x, day);
            for (int behind = 364; behind <= 367 && behind <= day; behind++) {
                int complaint = x.complain(0, 0, 0, day - behind);
                CHECK.is("9: " + behind + " days behind, on day " + day, x.examine(complaint),
                        behind > 365 ? 'l' : 'f');
            }
            int today = x.complain(0, 0, 0, day);
            CHECK.is("9: of that day, on day " + day, x.examine(today), 'f');
            int first = x.complain(0, 0, 0, 0);
            CHECK.is("9: of the first day, on day " + day, x.examine(first), day > 365 ? 'l' : 'f');
        }
    }

    /** "if it was told more than 365 days behind": the day on which it is examined does not count. */
    private static void p9LateByTheDayOfTelling() {
        GrievanceOmbud x = Scene.office(1);
        x.complain(0, 0, 0, 0);
        x.pass(365);
        x.complain(0, 0, 0, 0);
        x.takeStep(0);
        x.takeStep(1);
        x.pass(1);
        CHECK.is("9: told in time, examined 366 days behind", x.examine(0), 'r');
        CHECK.is("9: told 365 days behind, examined 366 days behind", x.examine(1), 'r');
    }

    /** "without a reason" */
    private static void p9LateWithReason() {
        GrievanceOmbud x = Scene.office(1);
        x.pass(366);
        for (int i = 0; i < 3; i++) {
            x.complain(0, 0, 0, 0);
        }
        x.excuse(0);
        x.excuse(1);
        x.takeStep(1);
        CHECK.is("9: with a reason, first step lacking", x.examine(0), 'f');
        x.pass(1);
        CHECK.is("9: with a reason, and a first step", x.examine(1), 'r');
        CHECK.is("9: without one, though others have", x.examine(2), 'l');
    }

    /** "'f' if the first step lacks" */
    private static void p9StepLacks() {
        for (int days : new int[] {1, 60}) {
            GrievanceOmbud x = Scene.office(days);
            x.complain(0, 0, 0, 0);
            x.complain(0, 0, 0, 0);
            x.takeStep(1);
            x.pass(400);
            CHECK.is("9: lacks, however long ago it was told", x.examine(0), 'f');
            CHECK.is("9: another one's does not", x.examine(1), 'r');
            x.pass(400);
            CHECK.is("9: lacks still", x.examine(0), 'f');
        }
    }

    /** "or was told less than the office's days to answer ago; otherwise 'r' received" */
    private static void p9StepDays() {
        for (int days : new int[] {1, 2, 7, 59, 60}) {
            for (int ago = Math.max(0, days - 2); ago <= days + 1; ago++) {
                GrievanceOmbud x = new GrievanceOmbud();
                x.addOffice(30, 1);
                x.addOffice(days, 1);
                x.complain(1, 0, 0, 0);
                x.pass(3);
                x.takeStep(0);
                Scene.until(x, 3 + ago);
                CHECK.is("9: " + ago + " days ago, office with " + days, x.examine(0), ago < days ? 'f' : 'r');
            }
        }
    }

    /** "and the day of now as that of the first step" */
    private static void p9StepOnTheDayOfNow() {
        GrievanceOmbud x = Scene.office(1);
        x.complain(0, 0, 0, 0);
        x.pass(10);
        x.takeStep(0);
        CHECK.is("9: on the same day", x.examine(0), 'f');
        x.pass(1);
        CHECK.is("9: on the next day", x.examine(0), 'r');
        GrievanceOmbud y = Scene.office(1);
        y.complain(0, 0, 0, 0);
        y.takeStep(0);
        CHECK.is("9: on the day 0", y.examine(0), 'f');
        y.pass(1);
        CHECK.is("9: a first step on the day 0 counts", y.examine(0), 'r');
    }

    /** "It is, by the first of these that holds" */
    private static void p9FirstThatHolds() {
        for (int which = 0; which < 16; which++) {
            boolean reach = (which & 1) == 0;
            boolean court = (which & 2) != 0;
            boolean late = (which & 4) != 0;
            boolean step = (which & 8) != 0;
            GrievanceOmbud x = new GrievanceOmbud();
            x.addOffice(1, reach ? 1023 : 0);
            x.pass(366);
            x.complain(0, 0, 0, late ? 0 : 1);
            x.setCourt(0, court);
            if (step) {
                x.takeStep(0);
            }
            x.pass(1);
            char due = !reach || court ? 'o' : late ? 'l' : step ? 'r' : 'f';
            CHECK.is("9: reach " + reach + ", court " + court + ", late " + late + ", step " + step, x.examine(0),
                    due);
            CHECK.is("9: and counts so", x.countState(due), 1);
        }
    }

    /** "A complaint that is new, or where the first step lacked, is examined." */
    private static void p9ExaminedAnew() {
        GrievanceOmbud x = Scene.office(2);
        for (int i = 0; i < 3; i++) {
            x.complain(0, 0, 0, 0);
            CHECK.is("9: at first", x.examine(i), 'f');
            CHECK.is("9: at once again", x.examine(i), 'f');
            x.takeStep(i);
            x.pass(1);
            CHECK.is("9: told too late", x.examine(i), 'f');
            x.pass(1);
        }
        CHECK.is("9: received then", x.examine(0), 'r');
        x.setCourt(1, true);
        CHECK.is("9: outside then", x.examine(1), 'o');
        CHECK.fails("9: outside for good", x, Check.NOT_SO, () -> x.examine(1));
        CHECK.fails("9: received for good", x, Check.NOT_SO, () -> x.examine(0));
    }

    /** "Throws UnsupportedOperationException if it is neither new, nor lacks its first step" */
    private static void p9RefusedElsewhere() {
        for (char state : "rasdoluhiw".toCharArray()) {
            GrievanceOmbud x = Standing.as(state);
            CHECK.fails("9: as " + state, x, Check.NOT_SO, () -> x.examine(0));
        }
        for (char state : "rasduhi".toCharArray()) {
            GrievanceOmbud x = Standing.behind(state);
            CHECK.fails("9: joined to " + state, x, Check.NOT_SO, () -> x.examine(1));
        }
    }

    /** "Returns 'n', 'f', 'r', 'a', 's', 'd', or as closed." */
    private static void p10EachState() {
        for (char state : Standing.ALL.toCharArray()) {
            CHECK.is("10: " + state, Standing.as(state).state(0), state);
        }
        for (char state : "rasduhi".toCharArray()) {
            CHECK.is("10: joined to " + state, Standing.behind(state).state(1), state);
        }
    }

    /** "Returns how many complaints stand so." */
    private static void p11EachState() {
        for (char state : Standing.ALL.toCharArray()) {
            GrievanceOmbud x = Standing.as(state);
            for (char other : Standing.ALL.toCharArray()) {
                int due = (other == state ? 1 : 0) + (other == 'r' ? 1 : 0);
                CHECK.is("11: " + other + ", where one stands as " + state, x.countState(other), due);
            }
        }
    }

    /** "Throws IllegalArgumentException if there is no such state" */
    private static void p11NoSuchState() {
        int refused = 0;
        for (int first = 0; first <= Character.MAX_VALUE; first += 256) {
            GrievanceOmbud some = Standing.as('d');
            String before = Check.dump(some);
            refused += refusedOf(some, first, first + 255);
            CHECK.is("11: nothing has changed", Check.dump(some).equals(before), true);
        }
        CHECK.is("11: all signs but twelve", refused, 65536 - 12);
        GrievanceOmbud x = Standing.as('d');
        char[] none = {'N', 'F', 'R', 'A', 'S', 'D', 'O', 'L', 'U', 'H', 'I', 'W', 'b', 'c', 'e', 'g', 'j', 'k', 'm',
            'p', 'q', 't', 'v', 'x', 'y', 'z', ' ', '0', (char) 0, (char) 366, Character.MAX_VALUE};
        for (char state : none) {
            CHECK.fails("11: sign " + (int) state, x, Check.RANGE, () -> x.countState(state));
        }
    }

    private static int refusedOf(GrievanceOmbud x, int first, int last) {
        int refused = 0;
        for (int sign = first; sign <= last; sign++) {
            try {
                x.countState((char) sign);
            } catch (IllegalArgumentException e) {
                refused++;
            }
        }
        return refused;
    }

    /** "how many": none and as many as there can be */
    private static void p11NoneAndAll() {
        GrievanceOmbud x = Scene.office(1);
        CHECK.is("11: none yet", x.countState('n'), 0);
        for (int i = 1; i <= 20; i++) {
            x.complain(0, 0, 0, 0);
            CHECK.is("11: so many", x.countState('n'), i);
        }
        for (int i = 1; i <= 20; i++) {
            x.withdraw(20 - i);
            CHECK.is("11: so many fewer", x.countState('n'), 20 - i);
            CHECK.is("11: so many withdrawn", x.countState('w'), i);
        }
    }

    /** "Returns how many, joined ones too." */
    private static void p11JoinedOnesToo() {
        for (char state : "rasduhi".toCharArray()) {
            CHECK.is("11: both as " + state, Standing.behind(state).countState(state), 2);
        }
        GrievanceOmbud x = Standing.behind('d');
        x.withdraw(0);
        CHECK.is("11: one received anew", x.countState('r'), 1);
        CHECK.is("11: none decided any more", x.countState('d'), 0);
    }

    /** "person: 0 to 49" */
    private static void p12Persons() {
        GrievanceOmbud x = Scene.office(1);
        x.complain(0, 0, 0, 0);
        x.complain(0, 0, 49, 0);
        x.complain(0, 0, 49, 0);
        for (int person = 0; person <= 49; person++) {
            CHECK.is("12: of " + person, x.countOf(person), person == 0 ? 1 : person == 49 ? 2 : 0);
        }
        for (int person : new int[] {-1, 50, 51, LEAST, MOST}) {
            CHECK.fails("12: of " + person, x, Check.RANGE, () -> x.countOf(person));
        }
    }

    /** "how many": none and as many as there can be */
    private static void p12NoneAndAll() {
        GrievanceOmbud x = Scene.office(1);
        CHECK.is("12: none yet", x.countOf(7), 0);
        for (int i = 1; i <= 20; i++) {
            x.complain(0, 0, 7, 0);
            CHECK.is("12: so many", x.countOf(7), i);
        }
        CHECK.is("12: none of the one before", x.countOf(6), 0);
        CHECK.fails("12: a refused one does not count", x, Check.FULL, () -> x.complain(0, 0, 7, 0));
        CHECK.is("12: twenty still", x.countOf(7), 20);
    }

    /** "Returns how many complaints one person told.": closed and joined ones, too */
    private static void p12WhereverTheyStand() {
        for (char state : Standing.ALL.toCharArray()) {
            CHECK.is("12: one that stands as " + state, Standing.as(state).countOf(0), 1);
        }
        for (char state : "rasduhi".toCharArray()) {
            CHECK.is("12: one joined to " + state, Standing.behind(state).countOf(1), 1);
        }
    }
}
