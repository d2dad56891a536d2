/** Promises 20 to 23: joining complaints to a lead and parting them. */
public final class JoiningTest {
    private static final Check CHECK = new Check("JoiningTest");

    public static void main(String[] args) {
        promise20();
        promise20States();
        promise20OfficeAndMatter();
        promise21();
        promise21Findings();
        promise22();
        promise23();
        CHECK.end();
    }

    private static void promise20() {
        GrievanceOmbud x = Scene.received(5, 5);
        CHECK.fails("20: -1", x, Check.NO_SUCH, () -> x.join(-1, 0));
        CHECK.fails("20: 5", x, Check.NO_SUCH, () -> x.join(5, 0));
        CHECK.fails("20: lead -1", x, Check.NO_SUCH, () -> x.join(0, -1));
        CHECK.fails("20: lead 5", x, Check.NO_SUCH, () -> x.join(0, 5));
        CHECK.fails("20: none, ahead of the same", x, Check.NO_SUCH, () -> x.join(5, 5));
        CHECK.fails("20: the same", x, Check.RANGE, () -> x.join(0, 0));
        CHECK.is("20: one", x.join(1, 0), 1);
        CHECK.is("20: two", x.join(2, 0), 2);
        CHECK.fails("20: a joined one as lead", x, Check.NOT_SO, () -> x.join(3, 1));
        CHECK.fails("20: one with joined ones", x, Check.NOT_SO, () -> x.join(0, 3));
        CHECK.fails("20: one with joined ones, to them", x, Check.NOT_SO, () -> x.join(0, 1));
        CHECK.fails("20: joined already", x, Check.NOT_SO, () -> x.join(1, 3));
        CHECK.fails("20: joined to that already", x, Check.NOT_SO, () -> x.join(1, 0));
        CHECK.fails("20: joined, the same", x, Check.RANGE, () -> x.join(1, 1));
        CHECK.is("20: three", x.join(3, 0), 3);
        CHECK.is("20: lead", x.lead(3), 0);
        CHECK.is("20: sound", x.isSound(), true);
    }

    private static void promise20States() {
        GrievanceOmbud x = Scene.asked(5, 6);
        CHECK.is("20: to an asked one", x.join(1, 0), 1);
        CHECK.is("20: is asked then", x.state(1), 'a');
        CHECK.fails("20: an asked one", x, Check.NOT_SO, () -> x.join(0, 2));
        x.answer(0);
        CHECK.is("20: to a studied one", x.join(2, 0), 2);
        CHECK.is("20: is studied then", x.state(2), 's');
        CHECK.fails("20: a studied one", x, Check.NOT_SO, () -> x.join(0, 3));
        x.find(0, 2);
        CHECK.fails("20: to a decided one", x, Check.NOT_SO, () -> x.join(3, 0));
        x.heed(0);
        CHECK.fails("20: to a heeded one", x, Check.NOT_SO, () -> x.join(3, 0));
        x.withdraw(4);
        CHECK.fails("20: to a withdrawn one", x, Check.NOT_SO, () -> x.join(3, 4));
        CHECK.fails("20: a withdrawn one", x, Check.NOT_SO, () -> x.join(4, 3));
        x.complain(0, 0, 0, 0);
        CHECK.fails("20: to a new one", x, Check.NOT_SO, () -> x.join(3, 6));
        CHECK.fails("20: a new one", x, Check.NOT_SO, () -> x.join(6, 3));
        x.examine(6);
        CHECK.fails("20: to one that lacks its first step", x, Check.NOT_SO, () -> x.join(3, 6));
        CHECK.fails("20: one that lacks its first step", x, Check.NOT_SO, () -> x.join(6, 3));
        CHECK.is("20: to a received one", x.join(5, 3), 1);
        CHECK.is("20: is received still", x.state(5), 'r');
    }

    private static void promise20OfficeAndMatter() {
        GrievanceOmbud x = Scene.office(1);
        x.addOffice(1, Scene.ALL_MATTERS);
        x.complain(0, 0, 0, 0);
        x.complain(1, 0, 0, 0);
        x.complain(0, 1, 0, 0);
        x.complain(0, 0, 1, 0);
        for (int i = 0; i < 4; i++) {
            x.takeStep(i);
        }
        x.pass(1);
        for (int i = 0; i < 4; i++) {
            x.examine(i);
        }
        CHECK.fails("20: another office", x, Check.NOT_SO, () -> x.join(1, 0));
        CHECK.fails("20: another matter", x, Check.NOT_SO, () -> x.join(2, 0));
        CHECK.is("20: another person", x.join(3, 0), 1);
    }

    private static void promise21() {
        GrievanceOmbud x = Scene.received(5, 4);
        CHECK.fails("21: -1", x, Check.NO_SUCH, () -> x.part(-1));
        CHECK.fails("21: 4", x, Check.NO_SUCH, () -> x.part(4));
        CHECK.fails("21: not joined", x, Check.NOT_SO, () -> x.part(0));
        x.join(0, 3);
        x.join(1, 3);
        CHECK.fails("21: the lead", x, Check.NOT_SO, () -> x.part(3));
        CHECK.is("21: parted", x.part(0), 3);
        CHECK.is("21: leads itself", x.lead(0), 0);
        CHECK.fails("21: twice", x, Check.NOT_SO, () -> x.part(0));
        x.ask(3);
        CHECK.is("21: parted from an asked one", x.part(1), 3);
        CHECK.is("21: received then", x.state(1), 'r');
        CHECK.is("21: the lead is asked still", x.state(3), 'a');
        x.join(1, 3);
        x.answer(3);
        CHECK.is("21: parted from a studied one", x.part(1), 3);
        CHECK.is("21: received from there, too", x.state(1), 'r');
        CHECK.is("21: asked about by itself", x.ask(1), 10);
        CHECK.is("21: sound", x.isSound(), true);
    }

    private static void promise21Findings() {
        GrievanceOmbud x = Scene.decided(5, 2, 2);
        CHECK.fails("21: decided", x, Check.NOT_SO, () -> x.part(1));
        x.heed(0);
        CHECK.fails("21: heeded", x, Check.NOT_SO, () -> x.part(1));
        GrievanceOmbud y = Scene.decided(5, 2, 0);
        CHECK.fails("21: unfounded", y, Check.NOT_SO, () -> y.part(1));
        GrievanceOmbud z = Scene.decided(5, 2, 2);
        z.pass(61);
        z.followUp(0);
        z.pass(61);
        z.followUp(0);
        CHECK.fails("21: ignored", z, Check.NOT_SO, () -> z.part(1));
    }

    private static void promise22() {
        GrievanceOmbud x = Scene.received(5, 3);
        CHECK.fails("22: -1", x, Check.NO_SUCH, () -> x.lead(-1));
        CHECK.fails("22: 3", x, Check.NO_SUCH, () -> x.lead(3));
        CHECK.is("22: itself", x.lead(2), 2);
        x.join(2, 1);
        CHECK.is("22: the lead", x.lead(2), 1);
        CHECK.is("22: the lead's own", x.lead(1), 1);
        x.withdraw(1);
        CHECK.is("22: itself behind a withdrawal", x.lead(2), 2);
        GrievanceOmbud y = Scene.decided(5, 2, 0);
        CHECK.is("22: a closed one's lead", y.lead(1), 0);
    }

    private static void promise23() {
        GrievanceOmbud x = Scene.received(5, 4);
        CHECK.fails("23: -1", x, Check.NO_SUCH, () -> x.countJoined(-1));
        CHECK.fails("23: 4", x, Check.NO_SUCH, () -> x.countJoined(4));
        CHECK.is("23: none", x.countJoined(0), 0);
        x.join(1, 0);
        x.join(2, 0);
        CHECK.is("23: two", x.countJoined(0), 2);
        CHECK.is("23: none to a joined one", x.countJoined(1), 0);
        CHECK.is("23: none to another", x.countJoined(3), 0);
        x.part(1);
        CHECK.is("23: one", x.countJoined(0), 1);
        x.withdraw(0);
        CHECK.is("23: none behind a withdrawal", x.countJoined(0), 0);
        GrievanceOmbud z = Scene.received(5, 2);
        CHECK.is("23: the first one joined to the last", z.join(0, 1), 1);
        CHECK.is("23: one, ahead of it", z.countJoined(1), 1);
        GrievanceOmbud y = Scene.decided(5, 3, 0);
        CHECK.is("23: still two when closed", y.countJoined(0), 2);
    }
}
