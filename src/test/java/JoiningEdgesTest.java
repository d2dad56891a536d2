/** Promises 20 to 23 at their edges: above each method stands the sentence of the document that it tests. */
public final class JoiningEdgesTest {
    private static final Check CHECK = new Check("JoiningEdgesTest");
    private static final int LEAST = Integer.MIN_VALUE;
    private static final int MOST = Integer.MAX_VALUE;

    public static void main(String[] args) {
        p20NoSuchComplaint();
        p20BothAreTheSame();
        p20OnlyReceivedOnes();
        p20OnlyToReceivedAskedOrStudied();
        p20NotToAJoinedOne();
        p20NotWithOthersJoined();
        p20NotJoinedAlready();
        p20SameOffice();
        p20SameMatter();
        p20AnyPersonAndDay();
        p20StandsWhereTheLeadStands();
        p20AllAreJoinedToOne();
        p20OnAnyDayOfTheLead();
        p21NoFinding();
        p21ReceivedThen();
        p21NotJoined();
        p21OneOfMany();
        p21CanBeJoinedAgain();
        p21SilenceStaysWithTheLead();
        p22Itself();
        p22TheLead();
        p22BehindPartingAndWithdrawal();
        p23NoneAndAll();
        p23OnlyThoseJoinedToIt();
        p23WhereverItStands();
        CHECK.end();
    }

    /** "if there is no such complaint, for either" */
    private static void p20NoSuchComplaint() {
        GrievanceOmbud x = Scene.received(5, 2);
        for (int none : new int[] {-1, 2, 3, 19, 20, LEAST, MOST}) {
            CHECK.fails("20: none, " + none, x, Check.NO_SUCH, () -> x.join(none, 0));
            CHECK.fails("20: no lead, " + none, x, Check.NO_SUCH, () -> x.join(0, none));
            CHECK.fails("20: neither, " + none, x, Check.NO_SUCH, () -> x.join(none, -none));
        }
        CHECK.is("20: the last to the first", x.join(1, 0), 1);
    }

    /** "if both are the same" */
    private static void p20BothAreTheSame() {
        GrievanceOmbud x = Scene.received(5, 20);
        for (int i = 0; i < 20; i++) {
            int one = i;
            CHECK.fails("20: the same, " + i, x, Check.RANGE, () -> x.join(one, one));
        }
    }

    /** "A complaint that is received can be joined" */
    private static void p20OnlyReceivedOnes() {
        for (char state : Standing.ALL.toCharArray()) {
            GrievanceOmbud x = Standing.as(state);
            if (state == 'r') {
                CHECK.is("20: as r", x.join(0, 1), 1);
            } else {
                CHECK.fails("20: as " + state, x, Check.NOT_SO, () -> x.join(0, 1));
            }
        }
    }

    /** "which is received, asked, or studied" */
    private static void p20OnlyToReceivedAskedOrStudied() {
        for (char state : Standing.ALL.toCharArray()) {
            GrievanceOmbud x = Standing.as(state);
            if ("ras".indexOf(state) >= 0) {
                CHECK.is("20: to one as " + state, x.join(1, 0), 1);
                CHECK.is("20: stands as " + state, x.state(1), state);
                CHECK.is("20: sound", x.isSound(), true);
            } else {
                CHECK.fails("20: to one as " + state, x, Check.NOT_SO, () -> x.join(1, 0));
            }
        }
    }

    /** "and not joined itself" */
    private static void p20NotToAJoinedOne() {
        for (char state : "ras".toCharArray()) {
            GrievanceOmbud x = threeWithTwoJoined(state);
            CHECK.fails("20: to one joined to " + state, x, Check.NOT_SO, () -> x.join(2, 1));
            CHECK.is("20: to its lead", x.join(2, 0), 2);
            GrievanceOmbud y = threeWithTwoJoined(state);
            y.part(1);
            CHECK.is("20: to one that is not joined any more", y.join(2, 1), 1);
        }
    }

    /** "one to which others are joined cannot be joined" */
    private static void p20NotWithOthersJoined() {
        GrievanceOmbud x = threeWithTwoJoined('r');
        CHECK.fails("20: a lead, to another one", x, Check.NOT_SO, () -> x.join(0, 2));
        CHECK.fails("20: a lead, to the one joined to it", x, Check.NOT_SO, () -> x.join(0, 1));
        x.part(1);
        CHECK.is("20: a lead no more", x.join(0, 2), 1);
        CHECK.is("20: and the other one", x.join(1, 2), 2);
        CHECK.is("20: sound", x.isSound(), true);
    }

    /** "it cannot be joined to that": what is joined is done to its lead, so it is not joined once more */
    private static void p20NotJoinedAlready() {
        for (char state : "ras".toCharArray()) {
            GrievanceOmbud x = threeWithTwoJoined(state);
            CHECK.fails("20: joined to " + state + ", to another one", x, Check.NOT_SO, () -> x.join(1, 2));
            CHECK.fails("20: joined to " + state + ", to that again", x, Check.NOT_SO, () -> x.join(1, 0));
        }
    }

    /** The complaint 0 stands as r, a or s, the complaint 1 is joined to it, the complaint 2 is received. */
    private static GrievanceOmbud threeWithTwoJoined(char state) {
        GrievanceOmbud x = Scene.received(5, 3);
        x.join(1, 0);
        if (state != 'r') {
            x.ask(0);
        }
        if (state == 's') {
            x.answer(0);
        }
        return x;
    }

    /** "of the same office" */
    private static void p20SameOffice() {
        GrievanceOmbud x = new GrievanceOmbud();
        for (int i = 0; i < 6; i++) {
            x.addOffice(1, 1);
        }
        for (int i = 0; i < 12; i++) {
            x.complain(i % 6, 0, 0, 0);
            x.takeStep(i);
        }
        x.pass(1);
        for (int i = 0; i < 12; i++) {
            x.examine(i);
        }
        for (int i = 1; i < 12; i++) {
            int one = i;
            if (i != 6) {
                CHECK.fails("20: the offices 0 and " + i % 6, x, Check.NOT_SO, () -> x.join(0, one));
            }
        }
        for (int i = 0; i < 6; i++) {
            CHECK.is("20: the same office " + i, x.join(i, i + 6), 1);
        }
    }

    /** "and matter" */
    private static void p20SameMatter() {
        GrievanceOmbud x = Scene.office(1);
        for (int i = 0; i < 20; i++) {
            x.complain(0, i % 10, 0, 0);
            x.takeStep(i);
        }
        x.pass(1);
        for (int i = 0; i < 20; i++) {
            x.examine(i);
        }
        for (int i = 1; i < 10; i++) {
            int one = i;
            CHECK.fails("20: the matters 0 and " + i, x, Check.NOT_SO, () -> x.join(0, one));
            CHECK.fails("20: the matters 9 and " + (i - 1), x, Check.NOT_SO, () -> x.join(9, one - 1));
        }
        for (int i = 0; i < 10; i++) {
            CHECK.is("20: the same matter " + i, x.join(i, i + 10), 1);
        }
    }

    /** Nothing else must be the same. */
    private static void p20AnyPersonAndDay() {
        GrievanceOmbud x = Scene.office(1);
        x.complain(0, 0, 0, 0);
        x.takeStep(0);
        x.pass(365);
        x.complain(0, 0, 49, 365);
        x.takeStep(1);
        x.complain(0, 0, 0, 0);
        x.takeStep(2);
        x.pass(1);
        for (int i = 0; i < 3; i++) {
            x.examine(i);
        }
        CHECK.is("20: another person, told and happened later", x.join(1, 0), 1);
        CHECK.is("20: the same person, told later", x.join(2, 0), 2);
    }

    /** "From then on it stands where the lead stands" */
    private static void p20StandsWhereTheLeadStands() {
        GrievanceOmbud x = Scene.received(5, 3);
        x.join(0, 2);
        bothStand(x, 'r');
        x.ask(2);
        bothStand(x, 'a');
        x.extend(2, 1);
        x.pass(7);
        x.remind(2);
        bothStand(x, 'a');
        x.answer(2);
        bothStand(x, 's');
        x.find(2, 1);
        bothStand(x, 'd');
        x.accept(2, true);
        x.pass(31);
        x.followUp(2);
        bothStand(x, 'd');
        x.pass(61);
        x.followUp(2);
        bothStand(x, 'i');
        CHECK.is("20: the third one all the while", x.state(1), 'r');
        for (char state : "rasduhi".toCharArray()) {
            CHECK.is("20: joined, then " + state, Standing.behind(state).state(1), state);
        }
    }

    private static void bothStand(GrievanceOmbud x, char state) {
        CHECK.is("20: the lead", x.state(2), state);
        CHECK.is("20: the joined one", x.state(0), state);
        CHECK.is("20: sound", x.isSound(), true);
    }

    /** "Returns how many are joined to that then.", up to as many as there can be, whichever of them leads */
    private static void p20AllAreJoinedToOne() {
        for (int lead : new int[] {0, 10, 19}) {
            GrievanceOmbud x = Scene.received(5, 20);
            int joined = 0;
            for (int i = 0; i < 20; i++) {
                if (i != lead) {
                    joined++;
                    CHECK.is("20: joined to " + lead, x.join(i, lead), joined);
                }
            }
            CHECK.is("20: sound", x.isSound(), true);
        }
        GrievanceOmbud pairs = Scene.received(5, 20);
        for (int i = 0; i < 20; i += 2) {
            CHECK.is("20: in pairs", pairs.join(i, i + 1), 1);
        }
    }

    /** "asked": on time, on its day, and overdue */
    private static void p20OnAnyDayOfTheLead() {
        for (int day : new int[] {5, 9, 10, 11, 400}) {
            GrievanceOmbud x = Scene.asked(5, 2);
            Scene.until(x, day);
            CHECK.is("20: to what is due on 10, on day " + day, x.join(1, 0), 1);
            CHECK.is("20: overdue then", x.isOverdue(1), day > 10);
        }
        GrievanceOmbud y = Scene.silent(5, 2);
        CHECK.is("20: to what is silent", y.join(1, 0), 1);
        CHECK.is("20: both are taken as that", y.takeSilence(0), 2);
    }

    /** "It can be parted again, as long as there is no finding"; "or there was a finding" */
    private static void p21NoFinding() {
        for (char state : "ras".toCharArray()) {
            CHECK.is("21: from one as " + state, Standing.behind(state).part(1), 0);
        }
        for (char state : "duhi".toCharArray()) {
            GrievanceOmbud x = Standing.behind(state);
            CHECK.fails("21: from one as " + state, x, Check.NOT_SO, () -> x.part(1));
        }
        GrievanceOmbud y = Standing.behind('d');
        y.pass(31);
        CHECK.fails("21: over the remedy's day", y, Check.NOT_SO, () -> y.part(1));
        y.followUp(0);
        CHECK.fails("21: followed up", y, Check.NOT_SO, () -> y.part(1));
    }

    /** "it is received then" */
    private static void p21ReceivedThen() {
        for (char state : "ras".toCharArray()) {
            GrievanceOmbud x = Standing.behind(state);
            x.part(1);
            CHECK.is("21: received, from one as " + state, x.state(1), 'r');
            CHECK.is("21: the lead stands as it did", x.state(0), state);
            CHECK.is("21: sound", x.isSound(), true);
            CHECK.is("21: can be asked about", x.ask(1), 10);
            CHECK.is("21: the lead is not moved by that", x.state(0), state);
        }
    }

    /** "if it is not joined" */
    private static void p21NotJoined() {
        for (char state : Standing.ALL.toCharArray()) {
            GrievanceOmbud x = Standing.as(state);
            CHECK.fails("21: as " + state, x, Check.NOT_SO, () -> x.part(0));
        }
        for (char state : "rasduhi".toCharArray()) {
            GrievanceOmbud x = Standing.behind(state);
            CHECK.fails("21: the lead, as " + state, x, Check.NOT_SO, () -> x.part(0));
        }
        GrievanceOmbud y = Standing.behind('r');
        y.part(1);
        CHECK.fails("21: twice", y, Check.NOT_SO, () -> y.part(1));
        GrievanceOmbud z = Standing.behind('d');
        z.withdraw(0);
        CHECK.fails("21: received anew", z, Check.NOT_SO, () -> z.part(1));
    }

    /** "Returns the lead.", of as many as can be joined to it */
    private static void p21OneOfMany() {
        for (int parted = 0; parted < 19; parted++) {
            GrievanceOmbud x = Scene.received(5, 20);
            for (int i = 0; i < 19; i++) {
                x.join(i, 19);
            }
            x.ask(19);
            CHECK.is("21: the lead", x.part(parted), 19);
            CHECK.is("21: one received", x.countState('r'), 1);
            CHECK.is("21: it is that one", x.state(parted), 'r');
            CHECK.is("21: so many are joined still", x.countJoined(19), 18);
        }
    }

    /** "again" */
    private static void p21CanBeJoinedAgain() {
        GrievanceOmbud x = Scene.received(5, 3);
        for (int i = 0; i < 20; i++) {
            CHECK.is("21: joined", x.join(1, i % 2 == 0 ? 0 : 2), 1);
            CHECK.is("21: parted", x.part(1), i % 2 == 0 ? 0 : 2);
        }
        CHECK.is("21: as a lead", x.join(0, 1), 1);
        CHECK.is("21: the other one, too", x.join(2, 1), 2);
        CHECK.is("21: sound", x.isSound(), true);
    }

    /** "it is received then", and the lead's silence is not its own */
    private static void p21SilenceStaysWithTheLead() {
        GrievanceOmbud x = Scene.silent(5, 2);
        x.join(1, 0);
        x.takeSilence(0);
        x.part(1);
        x.ask(1);
        x.answer(1);
        CHECK.is("21: unfounded by itself", x.find(1, 0), 0);
        CHECK.is("21: the lead is not", x.find(0, 0), 1);
    }

    /** "itself if it is not joined" */
    private static void p22Itself() {
        GrievanceOmbud x = Scene.received(5, 20);
        for (int i = 0; i < 20; i++) {
            CHECK.is("22: itself", x.lead(i), i);
        }
        for (char state : Standing.ALL.toCharArray()) {
            CHECK.is("22: itself, as " + state, Standing.as(state).lead(0), 0);
            CHECK.is("22: the other one, too", Standing.as(state).lead(1), 1);
        }
    }

    /** "Returns the lead" */
    private static void p22TheLead() {
        for (char state : "rasduhi".toCharArray()) {
            CHECK.is("22: joined to " + state, Standing.behind(state).lead(1), 0);
            CHECK.is("22: the lead's own", Standing.behind(state).lead(0), 0);
        }
        GrievanceOmbud x = Scene.received(5, 20);
        for (int i = 0; i < 19; i++) {
            x.join(i, 19);
            CHECK.is("22: the last one leads", x.lead(i), 19);
        }
        CHECK.is("22: and itself", x.lead(19), 19);
    }

    /** "lead themselves" */
    private static void p22BehindPartingAndWithdrawal() {
        for (char state : "rasd".toCharArray()) {
            GrievanceOmbud x = Standing.behind(state);
            x.withdraw(0);
            CHECK.is("22: leads itself", x.lead(1), 1);
            CHECK.is("22: the withdrawn one, too", x.lead(0), 0);
        }
        GrievanceOmbud y = Standing.behind('s');
        y.part(1);
        CHECK.is("22: parted", y.lead(1), 1);
        GrievanceOmbud z = Scene.received(5, 2);
        CHECK.fails("22: a refused joining", z, Check.RANGE, () -> z.join(1, 1));
        CHECK.is("22: still itself", z.lead(1), 1);
    }

    /** "Returns how many.": none and as many as there can be */
    private static void p23NoneAndAll() {
        GrievanceOmbud x = Scene.received(5, 20);
        CHECK.is("23: none", x.countJoined(19), 0);
        for (int i = 0; i < 19; i++) {
            x.join(i, 19);
            CHECK.is("23: so many", x.countJoined(19), i + 1);
            CHECK.is("23: none to the joined one", x.countJoined(i), 0);
        }
        for (int i = 0; i < 19; i++) {
            x.part(i);
            CHECK.is("23: one fewer", x.countJoined(19), 18 - i);
        }
    }

    /** "joined to one": to no other one */
    private static void p23OnlyThoseJoinedToIt() {
        GrievanceOmbud x = Scene.received(5, 6);
        x.join(1, 0);
        x.join(2, 0);
        x.join(4, 3);
        int[] due = {2, 0, 0, 1, 0, 0};
        for (int i = 0; i < due.length; i++) {
            CHECK.is("23: to the complaint " + i, x.countJoined(i), due[i]);
        }
        x.withdraw(0);
        CHECK.is("23: none to the withdrawn one", x.countJoined(0), 0);
        CHECK.is("23: the others stay", x.countJoined(3), 1);
    }

    /** "Returns how many complaints are joined to one.": when it is closed, too */
    private static void p23WhereverItStands() {
        for (char state : Standing.ALL.toCharArray()) {
            CHECK.is("23: none, as " + state, Standing.as(state).countJoined(0), 0);
        }
        for (char state : "rasduhi".toCharArray()) {
            CHECK.is("23: one, as " + state, Standing.behind(state).countJoined(0), 1);
            CHECK.is("23: none to the joined one", Standing.behind(state).countJoined(1), 0);
        }
    }
}
