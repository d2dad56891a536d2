/** Promises 1 to 12: offices, days, complaints and their intake. */
public final class OfficesTest {
    private static final int LEAST = Integer.MIN_VALUE;
    private static final int MOST = Integer.MAX_VALUE;
    private static final Check CHECK = new Check("OfficesTest");

    public static void main(String[] args) {
        promise1();
        promise2();
        promise3();
        promise4();
        promise5();
        promise6();
        promise7();
        promise8();
        promise9Order();
        promise9Edges();
        promise9Refused();
        promise10();
        promise11();
        promise12();
        CHECK.end();
    }

    private static void promise1() {
        GrievanceOmbud x = new GrievanceOmbud();
        CHECK.is("1: day", x.today(), 0);
        CHECK.is("1: checksum", x.checksum(), 217);
        CHECK.is("1: new ones", x.countState('n'), 0);
        CHECK.is("1: sound", x.isSound(), true);
        CHECK.fails("1: no complaint 0", x, Check.NO_SUCH, () -> x.state(0));
        CHECK.fails("1: no office 0", x, Check.NO_SUCH, () -> x.heededShare(0));
        for (int head = 0; head < 5; head++) {
            CHECK.is("1: weight", x.setWeight(head, 1), 1);
        }
    }

    private static void promise2() {
        GrievanceOmbud x = new GrievanceOmbud();
        CHECK.fails("2: no days", x, Check.RANGE, () -> x.addOffice(0, 0));
        CHECK.fails("2: 61 days", x, Check.RANGE, () -> x.addOffice(61, 0));
        CHECK.fails("2: least days", x, Check.RANGE, () -> x.addOffice(LEAST, 0));
        CHECK.fails("2: most days", x, Check.RANGE, () -> x.addOffice(MOST, 0));
        CHECK.fails("2: matters -1", x, Check.RANGE, () -> x.addOffice(1, -1));
        CHECK.fails("2: matters 1024", x, Check.RANGE, () -> x.addOffice(1, 1024));
        CHECK.is("2: first", x.addOffice(1, 0), 0);
        CHECK.is("2: second", x.addOffice(60, 1023), 1);
        for (int i = 2; i < 6; i++) {
            CHECK.is("2: further", x.addOffice(5, 1), i);
        }
        CHECK.fails("2: seventh", x, Check.FULL, () -> x.addOffice(5, 1));
        CHECK.fails("2: range ahead of full", x, Check.RANGE, () -> x.addOffice(0, 1));
    }

    private static void promise3() {
        GrievanceOmbud x = new GrievanceOmbud();
        CHECK.fails("3: 0", x, Check.RANGE, () -> x.pass(0));
        CHECK.fails("3: 401", x, Check.RANGE, () -> x.pass(401));
        CHECK.fails("3: least", x, Check.RANGE, () -> x.pass(LEAST));
        CHECK.fails("3: most", x, Check.RANGE, () -> x.pass(MOST));
        CHECK.is("3: 1", x.pass(1), 1);
        CHECK.is("3: 400", x.pass(400), 401);
        for (int i = 0; i < 23; i++) {
            x.pass(400);
        }
        CHECK.is("3: day so far", x.today(), 9601);
        CHECK.fails("3: day 10000", x, Check.FULL, () -> x.pass(399));
        CHECK.is("3: day 9999", x.pass(398), 9999);
        CHECK.fails("3: one more", x, Check.FULL, () -> x.pass(1));
        CHECK.fails("3: range ahead of last day", x, Check.RANGE, () -> x.pass(401));
    }

    private static void promise4() {
        GrievanceOmbud x = new GrievanceOmbud();
        x.pass(7);
        CHECK.is("4: today", x.today(), 7);
        x.pass(3);
        CHECK.is("4: today then", x.today(), 10);
        CHECK.is("4: asked twice", x.today(), 10);
    }

    private static void promise5() {
        GrievanceOmbud x = new GrievanceOmbud();
        CHECK.fails("5: no office yet", x, Check.NO_SUCH, () -> x.complain(0, 0, 0, 0));
        x.addOffice(1, 1);
        x.addOffice(1, 1);
        x.pass(5);
        CHECK.fails("5: office -1", x, Check.NO_SUCH, () -> x.complain(-1, 0, 0, 0));
        CHECK.fails("5: office 2, ahead of range", x, Check.NO_SUCH, () -> x.complain(2, 10, 50, 6));
        CHECK.fails("5: matter -1", x, Check.RANGE, () -> x.complain(0, -1, 0, 0));
        CHECK.fails("5: matter 10", x, Check.RANGE, () -> x.complain(0, 10, 0, 0));
        CHECK.fails("5: person -1", x, Check.RANGE, () -> x.complain(0, 0, -1, 0));
        CHECK.fails("5: person 50", x, Check.RANGE, () -> x.complain(0, 0, 50, 0));
        CHECK.fails("5: happened -1", x, Check.RANGE, () -> x.complain(0, 0, 0, -1));
        CHECK.fails("5: happened tomorrow", x, Check.RANGE, () -> x.complain(0, 0, 0, 6));
        CHECK.is("5: first, of today", x.complain(0, 0, 0, 5), 0);
        CHECK.is("5: second, not within reach", x.complain(1, 9, 49, 0), 1);
        CHECK.is("5: both are new", x.countState('n'), 2);
        for (int i = 2; i < 20; i++) {
            CHECK.is("5: further", x.complain(0, 0, 0, 0), i);
        }
        CHECK.fails("5: full", x, Check.FULL, () -> x.complain(0, 0, 0, 0));
        CHECK.fails("5: office ahead of full", x, Check.NO_SUCH, () -> x.complain(2, 0, 0, 0));
        CHECK.fails("5: range ahead of full", x, Check.RANGE, () -> x.complain(0, 0, 0, 6));
    }

    private static void promise6() {
        GrievanceOmbud x = Scene.office(1);
        x.complain(0, 0, 0, 0);
        CHECK.fails("6: -1", x, Check.NO_SUCH, () -> x.setCourt(-1, true));
        CHECK.fails("6: 1", x, Check.NO_SUCH, () -> x.setCourt(1, true));
        CHECK.is("6: had not", x.setCourt(0, false), false);
        CHECK.is("6: has", x.setCourt(0, true), false);
        CHECK.is("6: had", x.setCourt(0, true), true);
        CHECK.is("6: has not any more", x.setCourt(0, false), true);
        CHECK.is("6: f behind that", x.examine(0), 'f');
        CHECK.is("6: has, first step lacking", x.setCourt(0, true), false);
        CHECK.is("6: o behind that", x.examine(0), 'o');
        CHECK.fails("6: closed", x, Check.NOT_SO, () -> x.setCourt(0, false));
        GrievanceOmbud y = Scene.received(1, 1);
        CHECK.fails("6: received", y, Check.NOT_SO, () -> y.setCourt(0, true));
    }

    private static void promise7() {
        GrievanceOmbud x = Scene.office(1);
        x.pass(400);
        x.complain(0, 0, 0, 0);
        x.takeStep(0);
        x.pass(1);
        CHECK.fails("7: -1", x, Check.NO_SUCH, () -> x.excuse(-1));
        CHECK.fails("7: 1", x, Check.NO_SUCH, () -> x.excuse(1));
        CHECK.is("7: none before", x.excuse(0), false);
        CHECK.is("7: told for good", x.excuse(0), true);
        CHECK.is("7: not late then", x.examine(0), 'r');
        CHECK.fails("7: received", x, Check.NOT_SO, () -> x.excuse(0));
        x.complain(0, 0, 0, 401);
        x.examine(1);
        CHECK.is("7: first step lacking", x.excuse(1), false);
    }

    private static void promise8() {
        GrievanceOmbud x = Scene.office(7);
        x.pass(5);
        x.complain(0, 0, 0, 0);
        x.complain(0, 0, 0, 0);
        CHECK.fails("8: -1", x, Check.NO_SUCH, () -> x.takeStep(-1));
        CHECK.fails("8: 2", x, Check.NO_SUCH, () -> x.takeStep(2));
        CHECK.is("8: day", x.takeStep(0), 12);
        CHECK.fails("8: twice", x, Check.NOT_SO, () -> x.takeStep(0));
        x.examine(1);
        x.pass(2);
        CHECK.is("8: first step lacking", x.takeStep(1), 14);
        x.setCourt(1, true);
        x.examine(1);
        CHECK.fails("8: closed", x, Check.NOT_SO, () -> x.takeStep(1));
        x.complain(0, 0, 0, 0);
        x.withdraw(2);
        CHECK.fails("8: closed without one", x, Check.NOT_SO, () -> x.takeStep(2));
    }

    private static void promise9Order() {
        GrievanceOmbud x = new GrievanceOmbud();
        x.addOffice(1, 1022);
        x.pass(400);
        x.complain(0, 0, 0, 0);
        CHECK.is("9: outside ahead of late", x.examine(0), 'o');
        x.complain(0, 1, 0, 0);
        x.setCourt(1, true);
        CHECK.is("9: court ahead of late", x.examine(1), 'o');
        x.complain(0, 1, 0, 0);
        CHECK.is("9: late ahead of first step", x.examine(2), 'l');
        x.complain(0, 9, 0, 400);
        CHECK.is("9: first step lacks", x.examine(3), 'f');
        x.takeStep(3);
        CHECK.is("9: first step just told", x.examine(3), 'f');
        x.pass(1);
        CHECK.is("9: received", x.examine(3), 'r');
        CHECK.is("9: closed ones have no further days", x.days(0) + x.days(2), 0);
        CHECK.is("9: sound", x.isSound(), true);
    }

    private static void promise9Edges() {
        GrievanceOmbud x = Scene.office(3);
        x.pass(366);
        x.complain(0, 0, 0, 0);
        x.complain(0, 0, 0, 1);
        x.takeStep(0);
        x.takeStep(1);
        x.pass(2);
        CHECK.is("9: 366 days behind", x.examine(0), 'l');
        CHECK.is("9: 365 days behind, 2 days ago", x.examine(1), 'f');
        x.pass(1);
        CHECK.is("9: as many days ago as the office has", x.examine(1), 'r');
        GrievanceOmbud y = Scene.office(3);
        y.complain(0, 0, 0, 0);
        y.pass(400);
        CHECK.is("9: told in time, examined late", y.examine(0), 'f');
    }

    private static void promise9Refused() {
        GrievanceOmbud x = Scene.received(2, 1);
        CHECK.fails("9: -1", x, Check.NO_SUCH, () -> x.examine(-1));
        CHECK.fails("9: 1", x, Check.NO_SUCH, () -> x.examine(1));
        CHECK.fails("9: received", x, Check.NOT_SO, () -> x.examine(0));
        x.ask(0);
        CHECK.fails("9: asked", x, Check.NOT_SO, () -> x.examine(0));
        x.answer(0);
        CHECK.fails("9: studied", x, Check.NOT_SO, () -> x.examine(0));
        x.find(0, 0);
        CHECK.fails("9: unfounded", x, Check.NOT_SO, () -> x.examine(0));
    }

    private static void promise10() {
        GrievanceOmbud x = Scene.office(1);
        x.complain(0, 0, 0, 0);
        CHECK.fails("10: -1", x, Check.NO_SUCH, () -> x.state(-1));
        CHECK.fails("10: 1", x, Check.NO_SUCH, () -> x.state(1));
        CHECK.is("10: n", x.state(0), 'n');
        x.examine(0);
        CHECK.is("10: f", x.state(0), 'f');
        x.takeStep(0);
        x.pass(1);
        x.examine(0);
        CHECK.is("10: r", x.state(0), 'r');
        x.ask(0);
        CHECK.is("10: a", x.state(0), 'a');
        x.answer(0);
        CHECK.is("10: s", x.state(0), 's');
        x.find(0, 1);
        CHECK.is("10: d", x.state(0), 'd');
        x.withdraw(0);
        CHECK.is("10: w", x.state(0), 'w');
    }

    private static void promise11() {
        GrievanceOmbud x = new GrievanceOmbud();
        String none = "xNbceg \u00ff\uffff";
        for (int i = 0; i < none.length(); i++) {
            char state = none.charAt(i);
            CHECK.fails("11: " + (int) state, x, Check.RANGE, () -> x.countState(state));
        }
        CHECK.fails("11: 0", x, Check.RANGE, () -> x.countState((char) 0));
        String all = "nfrasdoluhiw";
        for (int i = 0; i < all.length(); i++) {
            CHECK.is("11: none so far", x.countState(all.charAt(i)), 0);
        }
        GrievanceOmbud y = Scene.studied(1, 4);
        y.complain(0, 0, 0, 0);
        CHECK.is("11: joined ones too", y.countState('s'), 4);
        CHECK.is("11: a new one", y.countState('n'), 1);
        CHECK.is("11: none any more", y.countState('r'), 0);
        y.find(0, 0);
        CHECK.is("11: unfounded ones", y.countState('u'), 4);
    }

    private static void promise12() {
        GrievanceOmbud x = Scene.office(1);
        CHECK.fails("12: -1", x, Check.RANGE, () -> x.countOf(-1));
        CHECK.fails("12: 50", x, Check.RANGE, () -> x.countOf(50));
        CHECK.is("12: none", x.countOf(0), 0);
        x.complain(0, 0, 0, 0);
        x.complain(0, 1, 49, 0);
        x.complain(0, 2, 49, 0);
        x.withdraw(2);
        CHECK.is("12: one", x.countOf(0), 1);
        CHECK.is("12: two, a closed one too", x.countOf(49), 2);
        CHECK.is("12: none of another", x.countOf(1), 0);
    }
}
