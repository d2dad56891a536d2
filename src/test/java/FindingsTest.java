/** Promises 24 to 32: weights, findings, remedies, heeding and withdrawing. */
public final class FindingsTest {
    private static final Check CHECK = new Check("FindingsTest");

    public static void main(String[] args) {
        promise24();
        promise25();
        promise25Ladder();
        promise25Joined();
        promise25Silence();
        promise26();
        promise27();
        promise28();
        promise29();
        promise30();
        promise31();
        promise31TopOfTheLadder();
        promise32();
        promise32Joined();
        promise32Refused();
        CHECK.end();
    }

    private static void promise24() {
        GrievanceOmbud x = new GrievanceOmbud();
        CHECK.fails("24: head -1", x, Check.RANGE, () -> x.setWeight(-1, 1));
        CHECK.fails("24: head 5", x, Check.RANGE, () -> x.setWeight(5, 1));
        CHECK.fails("24: weight 0", x, Check.RANGE, () -> x.setWeight(0, 0));
        CHECK.fails("24: weight 10", x, Check.RANGE, () -> x.setWeight(4, 10));
        for (int head = 0; head < 5; head++) {
            CHECK.is("24: first", x.setWeight(head, head + 5), 1);
        }
        for (int head = 0; head < 5; head++) {
            CHECK.is("24: before", x.setWeight(head, 1), head + 5);
        }
        CHECK.is("24: sound", x.isSound(), true);
    }

    private static void promise25() {
        GrievanceOmbud x = Scene.received(5, 2);
        CHECK.fails("25: received", x, Check.NOT_SO, () -> x.find(0, 1));
        x.join(1, 0);
        x.ask(0);
        CHECK.fails("25: asked", x, Check.NOT_SO, () -> x.find(0, 1));
        x.answer(0);
        CHECK.fails("25: -1, ahead of range", x, Check.NO_SUCH, () -> x.find(-1, 32));
        CHECK.fails("25: 2", x, Check.NO_SUCH, () -> x.find(2, 0));
        CHECK.fails("25: heads -1", x, Check.RANGE, () -> x.find(0, -1));
        CHECK.fails("25: heads 32", x, Check.RANGE, () -> x.find(0, 32));
        CHECK.fails("25: range ahead of joined", x, Check.RANGE, () -> x.find(1, 32));
        CHECK.fails("25: joined", x, Check.NOT_SO, () -> x.find(1, 1));
        CHECK.is("25: unfounded, though one is joined", x.find(0, 0), 0);
        CHECK.is("25: u", x.state(0), 'u');
        CHECK.is("25: joined one, too", x.state(1), 'u');
        CHECK.fails("25: twice", x, Check.NOT_SO, () -> x.find(0, 1));
        CHECK.fails("25: range ahead of that", x, Check.RANGE, () -> x.find(0, 32));
        GrievanceOmbud y = Scene.studied(5, 1);
        CHECK.is("25: decided", y.find(0, 16), 1);
        CHECK.is("25: d", y.state(0), 'd');
        CHECK.fails("25: decided twice", y, Check.NOT_SO, () -> y.find(0, 16));
    }

    private static void promise25Ladder() {
        int[] sums = {1, 3, 4, 9, 10, 15, 16, 18};
        int[] remedies = {1, 1, 2, 2, 3, 3, 4, 4};
        for (int i = 0; i < sums.length; i++) {
            GrievanceOmbud x = Scene.studied(5, 1);
            int first = Math.min(sums[i], 9);
            x.setWeight(2, first);
            x.setWeight(3, Math.max(sums[i] - first, 1));
            x.setWeight(4, 9);
            int heads = sums[i] > 9 ? 4 | 8 : 4;
            CHECK.is("25: sum " + sums[i], x.find(0, heads), remedies[i]);
            x.setWeight(2, 9);
            x.setWeight(3, 9);
            CHECK.is("25: weights as they were then", x.remedy(0), remedies[i]);
        }
        for (int head = 0; head < 5; head++) {
            GrievanceOmbud x = Scene.studied(5, 1);
            x.setWeight(head, 9);
            CHECK.is("25: head " + head, x.find(0, 1 << head), 2);
            GrievanceOmbud y = Scene.studied(5, 1);
            y.setWeight(head, 9);
            CHECK.is("25: all but head " + head, y.find(0, 31 - (1 << head)), 2);
            GrievanceOmbud z = Scene.studied(5, 1);
            z.setWeight(head, 9);
            CHECK.is("25: all heads", z.find(0, 31), 3);
        }
    }

    private static void promise25Joined() {
        CHECK.is("25: 2 and 1", Scene.studied(5, 2).find(0, 3), 1);
        CHECK.is("25: 2 and 2", Scene.studied(5, 3).find(0, 3), 2);
        int[] complaints = {4, 5, 6, 7, 10};
        int[] remedies = {2, 2, 3, 3, 3};
        for (int i = 0; i < complaints.length; i++) {
            GrievanceOmbud x = Scene.studied(5, complaints[i]);
            x.setWeight(1, 5);
            CHECK.is("25: 5 and " + (complaints[i] - 1), x.find(0, 2), remedies[i]);
        }
        GrievanceOmbud x = Scene.studied(5, 12);
        x.setWeight(1, 4);
        CHECK.is("25: 4 and 5 at most", x.find(0, 2), 2);
        GrievanceOmbud y = Scene.studied(5, 4);
        y.part(3);
        CHECK.is("25: a parted one does not count", y.find(0, 2), 1);
    }

    private static void promise25Silence() {
        GrievanceOmbud x = Scene.silent(5, 1);
        x.takeSilence(0);
        CHECK.is("25: silence alone is founded", x.find(0, 0), 1);
        CHECK.is("25: its head", x.heads(0), 1);
        GrievanceOmbud y = Scene.silent(5, 1);
        y.takeSilence(0);
        y.setWeight(0, 9);
        CHECK.is("25: head 0 counts", y.find(0, 2), 3);
        CHECK.is("25: both heads", y.heads(0), 3);
        GrievanceOmbud w = Scene.silent(5, 1);
        w.takeSilence(0);
        w.find(0, 5);
        CHECK.is("25: head 0 told besides", w.heads(0), 5);
        GrievanceOmbud z = Scene.silent(5, 1);
        z.answer(0);
        CHECK.is("25: an answer behind three reminders is no silence", z.find(0, 0), 0);
        GrievanceOmbud v = Scene.silent(5, 2);
        v.takeSilence(0);
        v.join(1, 0);
        v.withdraw(0);
        v.ask(1);
        v.answer(1);
        CHECK.is("25: the silence was about the lead", v.find(1, 0), 0);
    }

    private static void promise26() {
        GrievanceOmbud x = Scene.studied(5, 2);
        CHECK.fails("26: -1", x, Check.NO_SUCH, () -> x.heads(-1));
        CHECK.fails("26: 2", x, Check.NO_SUCH, () -> x.heads(2));
        CHECK.fails("26: none yet", x, Check.NONE, () -> x.heads(0));
        CHECK.fails("26: none yet, joined", x, Check.NONE, () -> x.heads(1));
        x.find(0, 22);
        CHECK.is("26: heads", x.heads(0), 22);
        CHECK.is("26: joined", x.heads(1), 22);
        x.heed(0);
        CHECK.is("26: closed", x.heads(1), 22);
        GrievanceOmbud y = Scene.decided(5, 2, 0);
        CHECK.is("26: unfounded", y.heads(0), 0);
        CHECK.is("26: unfounded, joined", y.heads(1), 0);
        GrievanceOmbud z = Scene.decided(5, 2, 9);
        z.withdraw(0);
        CHECK.is("26: a withdrawn one had a finding", z.heads(0), 9);
        CHECK.fails("26: those received anew have none", z, Check.NONE, () -> z.heads(1));
    }

    private static void promise27() {
        GrievanceOmbud x = Scene.studied(5, 2);
        CHECK.fails("27: -1", x, Check.NO_SUCH, () -> x.remedy(-1));
        CHECK.fails("27: 2", x, Check.NO_SUCH, () -> x.remedy(2));
        CHECK.fails("27: none yet", x, Check.NONE, () -> x.remedy(0));
        x.find(0, 31);
        CHECK.is("27: remedy", x.remedy(0), 2);
        CHECK.is("27: joined", x.remedy(1), 2);
        x.pass(61);
        x.followUp(0);
        CHECK.is("27: as it is by now", x.remedy(1), 3);
        x.heed(0);
        CHECK.is("27: heeded", x.remedy(0), 3);
        GrievanceOmbud y = Scene.decided(5, 1, 0);
        CHECK.fails("27: unfounded", y, Check.NONE, () -> y.remedy(0));
        GrievanceOmbud z = Scene.decided(5, 2, 9);
        z.withdraw(0);
        CHECK.is("27: told stays told", z.remedy(0), 1);
        CHECK.fails("27: those received anew have none", z, Check.NONE, () -> z.remedy(1));
    }

    private static void promise28() {
        GrievanceOmbud x = Scene.studied(5, 2);
        CHECK.fails("28: studied", x, Check.NOT_SO, () -> x.accept(0, true));
        x.find(0, 31);
        CHECK.fails("28: -1", x, Check.NO_SUCH, () -> x.accept(-1, true));
        CHECK.fails("28: 2", x, Check.NO_SUCH, () -> x.accept(2, true));
        CHECK.fails("28: joined", x, Check.NOT_SO, () -> x.accept(1, true));
        x.pass(4);
        CHECK.is("28: day", x.accept(0, true), 65);
        CHECK.fails("28: twice", x, Check.NOT_SO, () -> x.accept(0, false));
        x.pass(57);
        x.followUp(0);
        x.pass(91);
        CHECK.is("28: anew, though over its day", x.accept(0, false), 156);
        CHECK.fails("28: twice anew", x, Check.NOT_SO, () -> x.accept(0, false));
        x.followUp(0);
        CHECK.fails("28: ignored", x, Check.NOT_SO, () -> x.accept(0, true));
        GrievanceOmbud y = Scene.decided(5, 1, 1);
        y.heed(0);
        CHECK.fails("28: heeded", y, Check.NOT_SO, () -> y.accept(0, true));
    }

    private static void promise29() {
        GrievanceOmbud x = Scene.studied(5, 2);
        CHECK.fails("29: -1", x, Check.NO_SUCH, () -> x.isAccepted(-1));
        CHECK.fails("29: 2", x, Check.NO_SUCH, () -> x.isAccepted(2));
        CHECK.fails("29: no remedy", x, Check.NONE, () -> x.isAccepted(0));
        x.find(0, 1);
        CHECK.fails("29: nothing told", x, Check.NONE, () -> x.isAccepted(0));
        x.accept(0, true);
        CHECK.is("29: accepted", x.isAccepted(0), true);
        CHECK.is("29: joined", x.isAccepted(1), true);
        x.pass(31);
        CHECK.is("29: over its day", x.isAccepted(0), true);
        x.followUp(0);
        CHECK.fails("29: to be told anew", x, Check.NONE, () -> x.isAccepted(0));
        x.accept(0, false);
        CHECK.is("29: not accepted", x.isAccepted(1), false);
        x.pass(61);
        x.followUp(0);
        CHECK.is("29: ignored, told of the last remedy", x.isAccepted(0), false);
        GrievanceOmbud y = Scene.decided(5, 1, 0);
        CHECK.fails("29: unfounded", y, Check.NONE, () -> y.isAccepted(0));
    }

    private static void promise30() {
        GrievanceOmbud x = Scene.studied(5, 2);
        CHECK.fails("30: studied", x, Check.NOT_SO, () -> x.heed(0));
        x.find(0, 1);
        CHECK.fails("30: -1", x, Check.NO_SUCH, () -> x.heed(-1));
        CHECK.fails("30: 2", x, Check.NO_SUCH, () -> x.heed(2));
        CHECK.fails("30: joined", x, Check.NOT_SO, () -> x.heed(1));
        x.pass(30);
        CHECK.is("30: on the day", x.heed(0), 0);
        CHECK.is("30: h", x.state(0), 'h');
        CHECK.is("30: joined one, too", x.state(1), 'h');
        CHECK.fails("30: twice", x, Check.NOT_SO, () -> x.heed(0));
        GrievanceOmbud y = Scene.decided(5, 1, 31);
        y.accept(0, false);
        y.pass(1);
        CHECK.is("30: not accepted", y.heed(0), 59);
        GrievanceOmbud z = Scene.decided(5, 1, 1);
        z.pass(31);
        CHECK.fails("30: over its day", z, Check.NOT_SO, () -> z.heed(0));
        z.followUp(0);
        CHECK.is("30: followed up", z.heed(0), 60);
    }

    private static void promise31() {
        GrievanceOmbud x = Scene.studied(5, 2);
        CHECK.fails("31: studied", x, Check.NOT_SO, () -> x.followUp(0));
        x.find(0, 1);
        CHECK.fails("31: -1", x, Check.NO_SUCH, () -> x.followUp(-1));
        CHECK.fails("31: 2", x, Check.NO_SUCH, () -> x.followUp(2));
        x.pass(30);
        CHECK.fails("31: on the day", x, Check.NOT_SO, () -> x.followUp(0));
        x.pass(1);
        CHECK.fails("31: joined", x, Check.NOT_SO, () -> x.followUp(1));
        CHECK.is("31: a step higher", x.followUp(0), 2);
        CHECK.is("31: decided still", x.state(0), 'd');
        CHECK.is("31: days anew", x.nextDue(), 96);
        CHECK.fails("31: not over the new day", x, Check.NOT_SO, () -> x.followUp(0));
        x.pass(61);
        CHECK.is("31: ignored", x.followUp(0), 0);
        CHECK.is("31: i", x.state(0), 'i');
        CHECK.is("31: joined one, too", x.state(1), 'i');
        CHECK.is("31: the remedy stays", x.remedy(0), 2);
        CHECK.fails("31: a third time", x, Check.NOT_SO, () -> x.followUp(0));
        GrievanceOmbud y = Scene.decided(5, 1, 0);
        y.pass(400);
        CHECK.fails("31: unfounded", y, Check.NOT_SO, () -> y.followUp(0));
    }

    private static void promise31TopOfTheLadder() {
        GrievanceOmbud x = Scene.studied(5, 1);
        for (int head = 0; head < 5; head++) {
            x.setWeight(head, 9);
        }
        CHECK.is("31: 4 at first", x.find(0, 31), 4);
        x.pass(121);
        CHECK.is("31: 4 at most", x.followUp(0), 4);
        CHECK.is("31: its days", x.nextDue(), 246);
        x.pass(121);
        CHECK.is("31: ignored at the top", x.followUp(0), 0);
    }

    private static void promise32() {
        GrievanceOmbud x = Scene.received(5, 1);
        x.complain(0, 0, 0, 0);
        x.complain(0, 0, 0, 0);
        x.examine(2);
        CHECK.fails("32: -1", x, Check.NO_SUCH, () -> x.withdraw(-1));
        CHECK.fails("32: 3", x, Check.NO_SUCH, () -> x.withdraw(3));
        CHECK.is("32: new", x.withdraw(1), 0);
        CHECK.is("32: first step lacking", x.withdraw(2), 0);
        CHECK.is("32: received", x.withdraw(0), 0);
        CHECK.is("32: w", x.countState('w'), 3);
        CHECK.fails("32: twice", x, Check.NOT_SO, () -> x.withdraw(0));
        GrievanceOmbud y = Scene.asked(5, 1);
        CHECK.is("32: asked", y.withdraw(0), 0);
        GrievanceOmbud z = Scene.studied(5, 1);
        CHECK.is("32: studied", z.withdraw(0), 0);
        GrievanceOmbud v = Scene.decided(5, 1, 1);
        CHECK.is("32: decided", v.withdraw(0), 0);
        CHECK.is("32: w then", v.state(0), 'w');
    }

    private static void promise32Joined() {
        GrievanceOmbud x = Scene.decided(5, 4, 1);
        CHECK.fails("32: joined", x, Check.NOT_SO, () -> x.withdraw(1));
        CHECK.is("32: three received anew", x.withdraw(0), 3);
        CHECK.is("32: r", x.countState('r'), 3);
        CHECK.is("32: leads itself", x.lead(3), 3);
        CHECK.is("32: can be joined again", x.join(2, 3), 1);
        CHECK.is("32: can be asked about", x.ask(3), 10);
        CHECK.is("32: sound", x.isSound(), true);
        GrievanceOmbud z = Scene.received(5, 3);
        z.join(0, 2);
        z.join(1, 2);
        CHECK.is("32: those ahead of the lead, too", z.withdraw(2), 2);
        CHECK.is("32: the first leads itself", z.lead(0), 0);
        GrievanceOmbud y = Scene.asked(5, 3);
        y.join(2, 0);
        CHECK.is("32: one of two received anew", y.withdraw(0), 1);
        CHECK.is("32: not asked any more", y.isOverdue(2), false);
    }

    private static void promise32Refused() {
        GrievanceOmbud x = Scene.decided(5, 1, 0);
        CHECK.fails("32: unfounded", x, Check.NOT_SO, () -> x.withdraw(0));
        GrievanceOmbud y = Scene.decided(5, 1, 1);
        y.heed(0);
        CHECK.fails("32: heeded", y, Check.NOT_SO, () -> y.withdraw(0));
        GrievanceOmbud z = Scene.decided(5, 1, 1);
        z.pass(31);
        z.followUp(0);
        z.pass(61);
        z.followUp(0);
        CHECK.fails("32: ignored", z, Check.NOT_SO, () -> z.withdraw(0));
        GrievanceOmbud v = new GrievanceOmbud();
        v.addOffice(1, 1);
        v.complain(0, 1, 0, 0);
        v.examine(0);
        CHECK.fails("32: outside", v, Check.NOT_SO, () -> v.withdraw(0));
        v.pass(366);
        v.complain(0, 0, 0, 0);
        v.examine(1);
        CHECK.fails("32: late", v, Check.NOT_SO, () -> v.withdraw(1));
    }
}
