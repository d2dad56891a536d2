/** Promises 33 to 37 at their edges: above each method stands the sentence of the document that it tests. */
public final class FiguresEdgesTest {
    private static final Check CHECK = new Check("FiguresEdgesTest");

    public static void main(String[] args) {
        p33FromTheTelling();
        p33ToEachClosing();
        p33AskedDaysLeftOut();
        p33AskedDaysLeftOutWhenOverdue();
        p33WithdrawnWhileAsked();
        p33JoinedWhileAsked();
        p33JoinedOnEachDay();
        p33PartedOnEachDay();
        p33JoinedToTwo();
        p33ToldWhileTheLeadWasAsked();
        p33FreedWhileAsked();
        p33LongestClock();
        p34NoneTold();
        p34EachFinding();
        p34OneForEachJoined();
        p34FollowedUp();
        p34ByOffice();
        p34ToldStayTold();
        p34AsManyAsThereCanBe();
        p34AsFloats();
        p35NoneClosed();
        p35EachClosing();
        p35OpenOnesDoNotCount();
        p35AsDoubles();
        p35AsManyAsThereCanBe();
        p36EachState();
        p36ByHand();
        p36AsManyAsThereCanBe();
        p37EachState();
        p37BehindRefusedCalls();
        p37AsManyAsThereCanBe();
        CHECK.end();
    }

    /** "The days of a complaint are those from that on which it was told to now" */
    private static void p33FromTheTelling() {
        for (int told : new int[] {0, 1, 400}) {
            GrievanceOmbud x = Scene.office(5);
            Scene.until(x, told);
            x.complain(0, 0, 0, told / 2);
            CHECK.is("33: on the day of telling", x.days(0), 0);
            for (int days = 1; days <= 3; days++) {
                x.pass(1);
                CHECK.is("33: days behind that", x.days(0), days);
            }
            x.examine(0);
            CHECK.is("33: first step lacking", x.days(0), 3);
            x.takeStep(0);
            x.pass(5);
            x.examine(0);
            CHECK.is("33: received", x.days(0), 8);
        }
    }

    /** "or to that on which it was closed" */
    private static void p33ToEachClosing() {
        String closed = "oluhiw";
        int[] due = {5, 0, 5, 5, 5 + 31 + 61, 5};
        for (int i = 0; i < due.length; i++) {
            char state = closed.charAt(i);
            GrievanceOmbud x = Standing.as(state);
            CHECK.is("33: closed as " + state, x.days(0), due[i]);
            x.pass(1);
            CHECK.is("33: a day later, as " + state, x.days(0), due[i]);
            x.pass(400);
            CHECK.is("33: long behind, as " + state, x.days(0), due[i]);
        }
        for (char state : "uhi".toCharArray()) {
            GrievanceOmbud x = Standing.behind(state);
            x.pass(400);
            CHECK.is("33: joined, closed as " + state, x.days(1), x.days(0));
        }
        for (char state : "nfrsd".toCharArray()) {
            GrievanceOmbud x = Standing.as(state);
            x.pass(400);
            CHECK.is("33: not closed, as " + state, x.days(0), 405);
        }
    }

    /** "less those on which it was asked, that of asking included, that on which it was studied, or of now, not" */
    private static void p33AskedDaysLeftOut() {
        for (int asked = 0; asked <= 3; asked++) {
            GrievanceOmbud x = Scene.asked(5, 1);
            Scene.until(x, 5 + asked);
            CHECK.is("33: asked " + asked + " days ago", x.days(0), 5);
            x.answer(0);
            CHECK.is("33: answered just now", x.days(0), 5);
            x.pass(1);
            CHECK.is("33: answered a day ago", x.days(0), 6);
            x.pass(1);
            CHECK.is("33: answered two days ago", x.days(0), 7);
            x.find(0, 0);
            x.pass(1);
            CHECK.is("33: closed", x.days(0), 7);
        }
    }

    /** "those on which it was asked": overdue, reminded of, extended, until it is studied by silence, too */
    private static void p33AskedDaysLeftOutWhenOverdue() {
        GrievanceOmbud x = Scene.silent(5, 1);
        CHECK.is("33: asked, silent", x.days(0), 5);
        x.takeSilence(0);
        CHECK.is("33: silence taken", x.days(0), 5);
        x.pass(2);
        CHECK.is("33: two days behind that", x.days(0), 7);
        GrievanceOmbud y = Scene.asked(5, 1);
        y.extend(0, 30);
        y.pass(100);
        CHECK.is("33: asked, extended, overdue", y.days(0), 5);
    }

    /** "or to that on which it was closed; less those on which it was asked" */
    private static void p33WithdrawnWhileAsked() {
        for (int asked = 0; asked <= 2; asked++) {
            GrievanceOmbud x = Scene.asked(5, 1);
            Scene.until(x, 5 + asked);
            x.withdraw(0);
            CHECK.is("33: withdrawn", x.days(0), 5);
            x.pass(10);
            CHECK.is("33: and later", x.days(0), 5);
        }
    }

    /** "While a complaint is joined, the days on which its lead is asked are left out for it, too." */
    private static void p33JoinedWhileAsked() {
        for (int asked = 0; asked <= 3; asked++) {
            GrievanceOmbud x = Standing.behind('r');
            x.pass(1);
            x.ask(0);
            Scene.until(x, 6 + asked);
            CHECK.is("33: its lead asked " + asked + " days ago", x.days(1), 6);
            x.answer(0);
            CHECK.is("33: its lead studied", x.days(1), 6);
            x.pass(1);
            CHECK.is("33: a day later", x.days(1), 7);
            CHECK.is("33: as for its lead", x.days(0), 7);
        }
    }

    /** "While a complaint is joined": the days on which the lead was asked before do not count */
    private static void p33JoinedOnEachDay() {
        for (int day = 5; day <= 9; day++) {
            GrievanceOmbud x = Scene.asked(5, 2);
            Scene.until(x, day);
            x.join(1, 0);
            CHECK.is("33: joined on day " + day + ", just now", x.days(1), day);
            Scene.until(x, 10);
            CHECK.is("33: joined on day " + day + ", on day 10", x.days(1), day);
            x.answer(0);
            x.pass(2);
            CHECK.is("33: joined on day " + day + ", studied", x.days(1), day + 2);
            CHECK.is("33: the lead", x.days(0), 7);
        }
        GrievanceOmbud studied = Scene.studied(5, 1);
        studied.complain(0, 0, 0, 0);
        studied.takeStep(1);
        studied.pass(5);
        studied.examine(1);
        studied.join(1, 0);
        studied.pass(2);
        CHECK.is("33: joined to what is studied", studied.days(1), 7);
    }

    /** "While a complaint is joined": the day of parting counts again */
    private static void p33PartedOnEachDay() {
        for (int day = 5; day <= 8; day++) {
            GrievanceOmbud x = Scene.asked(5, 2);
            x.join(1, 0);
            Scene.until(x, day);
            x.part(1);
            CHECK.is("33: parted on day " + day + ", just now", x.days(1), 5);
            x.pass(1);
            CHECK.is("33: parted a day ago", x.days(1), 6);
            x.join(1, 0);
            CHECK.is("33: joined once more", x.days(1), 6);
            x.pass(3);
            CHECK.is("33: three days behind that", x.days(1), 6);
            CHECK.is("33: the lead all the while", x.days(0), 5);
            x.part(1);
            x.ask(1);
            x.pass(2);
            CHECK.is("33: parted, and asked about by itself", x.days(1), 6);
        }
    }

    /** The days of each lead are left out while it is joined to that one. */
    private static void p33JoinedToTwo() {
        GrievanceOmbud x = Scene.received(5, 3);
        x.ask(1);
        x.join(0, 1);
        x.pass(2);
        x.part(0);
        x.pass(3);
        x.join(0, 2);
        x.pass(4);
        CHECK.is("33: joined to one that is not asked", x.days(0), 5 + 3 + 4);
        x.ask(2);
        x.pass(7);
        CHECK.is("33: asked then", x.days(0), 5 + 3 + 4);
        CHECK.is("33: the first lead", x.days(1), 5);
        CHECK.is("33: the second lead", x.days(2), 5 + 2 + 3 + 4);
        CHECK.is("37: sound", x.isSound(), true);
    }

    /** Days on which it was not told yet are none of its own. */
    private static void p33ToldWhileTheLeadWasAsked() {
        GrievanceOmbud x = Scene.asked(5, 1);
        x.pass(10);
        x.complain(0, 0, 0, 0);
        x.takeStep(1);
        x.pass(5);
        x.examine(1);
        x.join(1, 0);
        CHECK.is("33: joined on its sixth day", x.days(1), 5);
        x.pass(10);
        CHECK.is("33: joined since", x.days(1), 5);
        x.answer(0);
        x.pass(1);
        CHECK.is("33: studied", x.days(1), 6);
    }

    /** "those joined to it are received anew": their clocks go on from the day of the withdrawal */
    private static void p33FreedWhileAsked() {
        for (int asked = 0; asked <= 2; asked++) {
            GrievanceOmbud x = Standing.behind('a');
            Scene.until(x, 5 + asked);
            x.withdraw(0);
            CHECK.is("33: freed just now", x.days(1), 5);
            x.pass(3);
            CHECK.is("33: freed three days ago", x.days(1), 8);
            CHECK.is("33: the withdrawn one", x.days(0), 5);
        }
        GrievanceOmbud y = Standing.behind('d');
        y.pass(10);
        y.withdraw(0);
        y.pass(3);
        CHECK.is("33: freed from what was decided", y.days(1), 18);
        CHECK.is("33: which was closed", y.days(0), 15);
    }

    /** "Days are numbered from 0 to 9999" */
    private static void p33LongestClock() {
        GrievanceOmbud x = Scene.asked(5, 2);
        x.join(1, 0);
        x.complain(0, 0, 0, 0);
        Scene.until(x, 9998);
        CHECK.is("33: told on day 5, the day before the last", x.days(2), 9993);
        x.pass(1);
        CHECK.is("33: told on day 5, on the last day", x.days(2), 9994);
        CHECK.is("33: asked since day 5", x.days(0), 5);
        CHECK.is("33: joined to that", x.days(1), 5);
        x.answer(0);
        CHECK.is("33: answered on the last day", x.days(0), 5);
        GrievanceOmbud y = Scene.office(1);
        y.complain(0, 0, 0, 0);
        Scene.until(y, 9999);
        CHECK.is("33: from the first day to the last", y.days(0), 9999);
        y.complain(0, 0, 0, 9999);
        CHECK.is("33: told on the last day", y.days(1), 0);
        y.withdraw(0);
        CHECK.is("33: closed on the last day", y.days(0), 9999);
    }

    /** "Throws ArithmeticException if none was told" */
    private static void p34NoneTold() {
        for (char state : "nfrasoluw".toCharArray()) {
            GrievanceOmbud x = Standing.as(state);
            CHECK.fails("34: as " + state, x, Check.NONE_TO_DIVIDE_BY, () -> x.heededShare(0));
        }
        GrievanceOmbud silence = Scene.studiedBySilence(5, 1);
        CHECK.fails("34: before the finding", silence, Check.NONE_TO_DIVIDE_BY, () -> silence.heededShare(0));
        silence.find(0, 0);
        CHECK.is("34: a remedy by silence", silence.heededShare(0), 0f);
    }

    /** "the share is told that was heeded" */
    private static void p34EachFinding() {
        CHECK.is("34: decided", Standing.as('d').heededShare(0), 0f);
        CHECK.is("34: heeded", Standing.as('h').heededShare(0), 1f);
        CHECK.is("34: ignored", Standing.as('i').heededShare(0), 0f);
        GrievanceOmbud x = Standing.as('d');
        x.accept(0, true);
        CHECK.is("34: accepted is not heeded", x.heededShare(0), 0f);
        GrievanceOmbud y = Standing.as('d');
        y.accept(0, false);
        y.heed(0);
        CHECK.is("34: heeded, though not accepted", y.heededShare(0), 1f);
    }

    /** "by each finding one for the complaint and one for each joined to it" */
    private static void p34OneForEachJoined() {
        for (int joined : new int[] {0, 1, 4, 5, 6, 18}) {
            GrievanceOmbud x = Scene.received(5, 20);
            for (int i = 0; i < joined; i++) {
                x.join(i, 18);
            }
            x.ask(18);
            x.answer(18);
            x.find(18, 1);
            x.ask(19);
            x.answer(19);
            x.find(19, 1);
            CHECK.is("34: none heeded", x.heededShare(0), 0f);
            x.heed(18);
            CHECK.is("34: all but one", x.heededShare(0), (float) (joined + 1) / (float) (joined + 2));
            GrievanceOmbud y = Scene.received(5, 20);
            for (int i = 0; i < joined; i++) {
                y.join(i, 18);
            }
            y.ask(18);
            y.answer(18);
            y.find(18, 1);
            y.ask(19);
            y.answer(19);
            y.find(19, 1);
            y.heed(19);
            CHECK.is("34: one alone", y.heededShare(0), 1f / (float) (joined + 2));
        }
    }

    /** "however often it is followed up" */
    private static void p34FollowedUp() {
        GrievanceOmbud x = Scene.received(5, 2);
        for (int i = 0; i < 2; i++) {
            x.ask(i);
            x.answer(i);
            x.find(i, 1);
        }
        x.heed(1);
        CHECK.is("34: one of two", x.heededShare(0), 0.5f);
        x.pass(31);
        x.followUp(0);
        CHECK.is("34: followed up once", x.heededShare(0), 0.5f);
        x.pass(61);
        x.followUp(0);
        CHECK.is("34: followed up twice", x.heededShare(0), 0.5f);
        GrievanceOmbud y = Scene.withRemedy(1);
        y.pass(31);
        y.followUp(0);
        y.heed(0);
        CHECK.is("34: heeded when followed up", y.heededShare(0), 1f);
    }

    /** "Of the remedies told to an office" */
    private static void p34ByOffice() {
        GrievanceOmbud x = new GrievanceOmbud();
        for (int i = 0; i < 6; i++) {
            x.addOffice(5, 1);
        }
        for (int i = 0; i < 18; i++) {
            x.complain(i % 6, 0, 0, 0);
            x.takeStep(i);
        }
        x.pass(5);
        for (int i = 0; i < 18; i++) {
            x.examine(i);
            if (i % 6 > 0 && i / 6 < i % 6) {
                x.ask(i);
                x.answer(i);
                x.find(i, 1);
            }
        }
        CHECK.fails("34: none told to the office 0", x, Check.NONE_TO_DIVIDE_BY, () -> x.heededShare(0));
        for (int office = 1; office < 6; office++) {
            CHECK.is("34: none heeded by " + office, x.heededShare(office), 0f);
            x.heed(office);
            int told = Math.min(office, 3);
            CHECK.is("34: one heeded by " + office, x.heededShare(office), 1f / (float) told);
        }
    }

    /** "remedies that were told stay told" */
    private static void p34ToldStayTold() {
        GrievanceOmbud x = Scene.decided(5, 4, 1);
        x.withdraw(0);
        CHECK.is("34: four told, none heeded", x.heededShare(0), 0f);
        x.join(2, 1);
        x.ask(1);
        x.answer(1);
        x.find(1, 1);
        CHECK.is("34: six told, none heeded", x.heededShare(0), 0f);
        x.heed(1);
        CHECK.is("34: six told, two heeded", x.heededShare(0), 2f / 6f);
        x.ask(3);
        x.answer(3);
        x.find(3, 0);
        CHECK.is("34: unfounded tells none", x.heededShare(0), 2f / 6f);
    }

    /** As many as 20 complaints can be told of: 20, then 19 received anew, then 18, and so on. */
    private static void p34AsManyAsThereCanBe() {
        GrievanceOmbud x = Scene.received(5, 20);
        for (int lead = 0; lead < 20; lead++) {
            for (int i = lead + 1; i < 20; i++) {
                x.join(i, lead);
            }
            x.ask(lead);
            x.answer(lead);
            x.find(lead, 1);
            if (lead < 19) {
                CHECK.is("34: received anew", x.withdraw(lead), 19 - lead);
            }
        }
        x.heed(19);
        CHECK.is("34: 210 told, one heeded", x.heededShare(0), 1f / 210f);
        CHECK.is("37: sound", x.isSound(), true);
    }

    /** "Returns those heeded divided by all that were told, both converted to float." */
    private static void p34AsFloats() {
        for (int told = 1; told <= 20; told++) {
            GrievanceOmbud x = Scene.received(5, told);
            for (int i = 0; i < told; i++) {
                x.ask(i);
                x.answer(i);
                x.find(i, 1);
            }
            for (int i = 0; i < told; i++) {
                x.heed(i);
                CHECK.is("34: " + (i + 1) + " of " + told, x.heededShare(0), (float) (i + 1) / (float) told);
            }
        }
    }

    /** "Throws ArithmeticException if there are none" */
    private static void p35NoneClosed() {
        GrievanceOmbud none = new GrievanceOmbud();
        CHECK.fails("35: no complaint", none, Check.NONE_TO_DIVIDE_BY, none::meanDays);
        for (char state : "nfrasd".toCharArray()) {
            GrievanceOmbud x = Standing.as(state);
            CHECK.fails("35: as " + state, x, Check.NONE_TO_DIVIDE_BY, x::meanDays);
        }
        for (char state : "rasd".toCharArray()) {
            GrievanceOmbud x = Standing.behind(state);
            CHECK.fails("35: joined to " + state, x, Check.NONE_TO_DIVIDE_BY, x::meanDays);
        }
    }

    /** "Closed are 'o', 'l', 'u', 'h', 'i' and 'w'." */
    private static void p35EachClosing() {
        String closed = "oluhiw";
        double[] due = {5, 0, 5, 5, 5 + 31 + 61, 5};
        for (int i = 0; i < due.length; i++) {
            GrievanceOmbud x = Standing.as(closed.charAt(i));
            x.pass(7);
            CHECK.is("35: as " + closed.charAt(i), x.meanDays(), due[i]);
        }
        for (char state : "uhi".toCharArray()) {
            GrievanceOmbud x = Standing.behind(state);
            x.pass(7);
            CHECK.is("35: joined to " + state, x.meanDays(), (double) x.days(0));
        }
    }

    /** "the mean number of days of complaints that are closed" */
    private static void p35OpenOnesDoNotCount() {
        GrievanceOmbud x = Scene.received(5, 20);
        x.pass(1);
        x.withdraw(7);
        x.pass(100);
        CHECK.is("35: one of twenty", x.meanDays(), 6.0);
        GrievanceOmbud y = Standing.behind('d');
        y.withdraw(0);
        y.pass(100);
        CHECK.is("35: those received anew are open", y.meanDays(), 5.0);
        GrievanceOmbud z = Scene.office(1);
        z.complain(0, 0, 0, 0);
        z.withdraw(0);
        CHECK.is("35: closed on its first day", z.meanDays(), 0.0);
    }

    /** "Returns the sum divided by how many there are, both converted to double." */
    private static void p35AsDoubles() {
        GrievanceOmbud x = Scene.office(60);
        for (int i = 0; i < 20; i++) {
            x.complain(0, 0, 0, 0);
        }
        int sum = 0;
        for (int i = 0; i < 20; i++) {
            x.pass(1 + i % 3);
            sum += x.today();
            x.withdraw(i);
            CHECK.is("35: of " + (i + 1), x.meanDays(), (double) sum / (double) (i + 1));
        }
    }

    /** "Days are numbered from 0 to 9999", "At most 20" */
    private static void p35AsManyAsThereCanBe() {
        GrievanceOmbud x = Scene.office(1);
        for (int i = 0; i < 20; i++) {
            x.complain(0, 0, 0, 0);
        }
        Scene.until(x, 9998);
        x.withdraw(0);
        x.pass(1);
        for (int i = 1; i < 20; i++) {
            x.withdraw(i);
        }
        CHECK.is("35: all, but one a day earlier", x.meanDays(), 199979.0 / 20.0);
    }

    /** "for each complaint 31 times itself plus the letter of its state as a number" */
    private static void p36EachState() {
        for (char state : Standing.ALL.toCharArray()) {
            GrievanceOmbud x = Standing.as(state);
            long due = ((7L * 31 + state) * 31 + x.days(0)) * 31 + 'r';
            due = (due * 31 + x.days(1)) * 31 + x.today();
            CHECK.is("36: as " + state, x.checksum(), due);
            CHECK.is("36: asked twice", x.checksum(), due);
        }
        for (char state : "rasduhi".toCharArray()) {
            GrievanceOmbud x = Standing.behind(state);
            long due = ((7L * 31 + state) * 31 + x.days(0)) * 31 + state;
            due = (due * 31 + x.days(1)) * 31 + x.today();
            CHECK.is("36: joined to " + state, x.checksum(), due);
        }
    }

    /** "Returns 7 at first, ...; then 31 times itself plus the day." */
    private static void p36ByHand() {
        GrievanceOmbud x = new GrievanceOmbud();
        CHECK.is("36: without complaints, on the day 0", x.checksum(), 217);
        x.pass(1);
        CHECK.is("36: on the day 1", x.checksum(), 218);
        x.addOffice(5, 1);
        x.setWeight(0, 9);
        CHECK.is("36: neither offices nor weights count", x.checksum(), 218);
        x.complain(0, 0, 49, 0);
        // ((7 * 31 + 110) * 31 + 0) * 31 + 1
        CHECK.is("36: one new complaint", x.checksum(), 314248);
        x.pass(2);
        // ((7 * 31 + 110) * 31 + 2) * 31 + 3
        CHECK.is("36: two days later", x.checksum(), 314312);
        x.withdraw(0);
        // ((7 * 31 + 119) * 31 + 2) * 31 + 3
        CHECK.is("36: withdrawn", x.checksum(), 322961);
        Scene.until(x, 9999);
        // ((7 * 31 + 119) * 31 + 2) * 31 + 9999
        CHECK.is("36: on the last day", x.checksum(), 332957);
    }

    /** "At most 20", with the wrap-around of a long */
    private static void p36AsManyAsThereCanBe() {
        GrievanceOmbud x = Scene.received(5, 20);
        Scene.until(x, 9999);
        long due = 7;
        for (int i = 0; i < 20; i++) {
            if (i % 2 == 0) {
                x.withdraw(i);
            }
            due = 31 * (31 * due + (i % 2 == 0 ? 'w' : 'r')) + 9999;
        }
        CHECK.is("36: twenty", x.checksum(), 31 * due + 9999);
        GrievanceOmbud y = Scene.received(5, 20);
        due = 7;
        for (int i = 0; i < 20; i++) {
            if (i < 19) {
                y.join(i, 19);
            }
            due = 31 * (31 * due + 'a') + 5;
        }
        y.ask(19);
        y.pass(400);
        CHECK.is("36: twenty, nineteen of them joined", y.checksum(), 31 * due + 405);
    }

    /** "Returns whether it is so.": it is, wherever a complaint stands */
    private static void p37EachState() {
        CHECK.is("37: without anything", new GrievanceOmbud().isSound(), true);
        for (char state : Standing.ALL.toCharArray()) {
            GrievanceOmbud x = Standing.as(state);
            CHECK.is("37: as " + state, x.isSound(), true);
            x.pass(400);
            CHECK.is("37: days later, as " + state, x.isSound(), true);
            CHECK.is("37: once more, as " + state, x.isSound(), true);
        }
        for (char state : "rasduhi".toCharArray()) {
            GrievanceOmbud x = Standing.behind(state);
            CHECK.is("37: joined to " + state, x.isSound(), true);
            x.pass(400);
            CHECK.is("37: days later, joined to " + state, x.isSound(), true);
        }
    }

    /** "all, told again event by event": a call that was refused is no event */
    private static void p37BehindRefusedCalls() {
        GrievanceOmbud x = Standing.behind('s');
        CHECK.fails("25: refused", x, Check.RANGE, () -> x.find(0, 32));
        CHECK.fails("13: refused", x, Check.NOT_SO, () -> x.ask(0));
        CHECK.fails("20: refused", x, Check.NOT_SO, () -> x.join(1, 0));
        CHECK.fails("5: refused", x, Check.RANGE, () -> x.complain(0, 0, 0, 6));
        CHECK.fails("3: refused", x, Check.RANGE, () -> x.pass(401));
        CHECK.fails("2: refused", x, Check.RANGE, () -> x.addOffice(61, 0));
        CHECK.fails("24: refused", x, Check.RANGE, () -> x.setWeight(0, 10));
        CHECK.is("37: sound still", x.isSound(), true);
        CHECK.is("25: and goes on", x.find(0, 31), 2);
        CHECK.is("37: sound then", x.isSound(), true);
    }

    /** "At most 6", "At most 20" */
    private static void p37AsManyAsThereCanBe() {
        GrievanceOmbud x = Scene.received(5, 20);
        for (int i = 0; i < 5; i++) {
            x.addOffice(60, 1023);
        }
        for (int i = 0; i < 19; i++) {
            x.join(i, 19);
            CHECK.is("37: with " + (i + 1) + " joined", x.isSound(), true);
        }
        x.ask(19);
        for (int i = 0; i < 3; i++) {
            x.pass(8);
            x.remind(19);
        }
        x.pass(8);
        x.takeSilence(19);
        CHECK.is("37: twenty studied", x.isSound(), true);
        x.find(19, 0);
        x.pass(61);
        x.followUp(19);
        CHECK.is("37: twenty followed up", x.isSound(), true);
        x.withdraw(19);
        CHECK.is("37: nineteen received anew", x.isSound(), true);
    }
}
