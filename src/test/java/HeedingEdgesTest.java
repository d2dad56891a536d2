/** Promises 28 to 32 at their edges: above each method stands the sentence of the document that it tests. */
public final class HeedingEdgesTest {
    private static final Check CHECK = new Check("HeedingEdgesTest");

    public static void main(String[] args) {
        p28DayByWhich();
        p28OnceForEachRemedy();
        p28OnItsDayAndOver();
        p28Joined();
        p28NotDecided();
        p29Whether();
        p29RemedyOfNow();
        p29NothingTold();
        p29Joined();
        p30DaysLeft();
        p30OverItsDay();
        p30AcceptedOrNot();
        p30FollowedUp();
        p30Joined();
        p30NotDecided();
        p31OverItsDay();
        p31StepHigher();
        p31DaysAnew();
        p31SecondTime();
        p31ToldAnew();
        p31Joined();
        p31NotDecided();
        p32NotClosed();
        p32Joined();
        p32HowManyReceivedAnew();
        p32ReceivedAnewFromEach();
        p32HaveNoFinding();
        p32OverItsDay();
        p32OnlyItsOwn();
        CHECK.end();
    }

    /** "Returns the day by which it is to be heeded." */
    private static void p28DayByWhich() {
        for (int remedy = 1; remedy <= 4; remedy++) {
            for (int later : new int[] {0, 1, 30 * remedy}) {
                GrievanceOmbud x = Scene.withRemedy(remedy);
                Scene.until(x, 5 + later);
                CHECK.is("28: remedy " + remedy + ", " + later + " days later", x.accept(0, later == 0),
                        5 + 30 * remedy);
            }
            GrievanceOmbud y = Scene.withRemedy(remedy);
            Scene.until(y, 500);
            int next = y.followUp(0);
            CHECK.is("28: followed up", y.accept(0, true), 500 + 30 * next);
        }
    }

    /** "An office tells once for each remedy whether it accepts it."; "or that was told of this remedy" */
    private static void p28OnceForEachRemedy() {
        for (boolean first : new boolean[] {true, false}) {
            for (boolean second : new boolean[] {true, false}) {
                GrievanceOmbud x = Scene.withRemedy(3);
                x.accept(0, first);
                CHECK.fails("28: twice", x, Check.NOT_SO, () -> x.accept(0, second));
                CHECK.is("29: the first telling stays", x.isAccepted(0), first);
                x.pass(91);
                CHECK.fails("28: twice, over its day", x, Check.NOT_SO, () -> x.accept(0, second));
                x.followUp(0);
                CHECK.is("28: once more, of the next remedy", x.accept(0, second), 96 + 120);
                CHECK.is("29: the second telling", x.isAccepted(0), second);
                CHECK.fails("28: twice of that", x, Check.NOT_SO, () -> x.accept(0, first));
            }
        }
        GrievanceOmbud top = Scene.withRemedy(4);
        top.accept(0, true);
        top.pass(121);
        top.followUp(0);
        CHECK.is("28: once more, though the remedy is no higher", top.accept(0, false), 126 + 120);
    }

    /** "or is not decided": no day ends that, as long as it is decided */
    private static void p28OnItsDayAndOver() {
        for (int later : new int[] {29, 30, 31, 400}) {
            GrievanceOmbud x = Scene.withRemedy(1);
            x.pass(later);
            CHECK.is("28: " + later + " days later", x.accept(0, true), 35);
        }
    }

    /** "if it is joined to another one" */
    private static void p28Joined() {
        for (char state : "rasduhi".toCharArray()) {
            GrievanceOmbud x = Standing.behind(state);
            CHECK.fails("28: is, joined to " + state, x, Check.NOT_SO, () -> x.accept(1, true));
            CHECK.fails("28: is not, joined to " + state, x, Check.NOT_SO, () -> x.accept(1, false));
        }
        CHECK.is("28: the lead", Standing.behind('d').accept(0, true), 35);
    }

    /** "or is not decided" */
    private static void p28NotDecided() {
        for (char state : "nfrasoluhiw".toCharArray()) {
            GrievanceOmbud x = Standing.as(state);
            CHECK.fails("28: is, as " + state, x, Check.NOT_SO, () -> x.accept(0, true));
            CHECK.fails("28: is not, as " + state, x, Check.NOT_SO, () -> x.accept(0, false));
        }
    }

    /** "Returns whether it did." */
    private static void p29Whether() {
        for (boolean is : new boolean[] {true, false}) {
            GrievanceOmbud x = Scene.received(5, 2);
            for (int i = 0; i < 2; i++) {
                x.ask(i);
                x.answer(i);
                x.find(i, 1);
            }
            x.accept(0, is);
            CHECK.is("29: " + is, x.isAccepted(0), is);
            CHECK.fails("29: nothing of another one", x, Check.NONE, () -> x.isAccepted(1));
            x.accept(1, !is);
            CHECK.is("29: still " + is, x.isAccepted(0), is);
            CHECK.is("29: the other one", x.isAccepted(1), !is);
            x.heed(0);
            CHECK.is("29: heeded", x.isAccepted(0), is);
        }
    }

    /** "if nothing was told of the remedy of now" */
    private static void p29RemedyOfNow() {
        for (boolean is : new boolean[] {true, false}) {
            GrievanceOmbud x = Scene.withRemedy(4);
            x.accept(0, is);
            x.pass(121);
            CHECK.is("29: over its day", x.isAccepted(0), is);
            x.followUp(0);
            CHECK.fails("29: followed up", x, Check.NONE, () -> x.isAccepted(0));
            x.pass(121);
            CHECK.fails("29: over its day anew", x, Check.NONE, () -> x.isAccepted(0));
            x.followUp(0);
            CHECK.fails("29: ignored, nothing told of the last remedy", x, Check.NONE, () -> x.isAccepted(0));
            GrievanceOmbud y = Scene.withRemedy(4);
            y.pass(121);
            y.followUp(0);
            y.accept(0, is);
            y.pass(121);
            y.followUp(0);
            CHECK.is("29: ignored, told of the last remedy", y.isAccepted(0), is);
        }
    }

    /** "Throws NoSuchElementException if nothing was told" */
    private static void p29NothingTold() {
        for (char state : Standing.ALL.toCharArray()) {
            GrievanceOmbud x = Standing.as(state);
            CHECK.fails("29: as " + state, x, Check.NONE, () -> x.isAccepted(0));
        }
    }

    /** "Of a joined complaint what is told of answers, findings and remedies is that of its lead." */
    private static void p29Joined() {
        for (char state : "rasduhi".toCharArray()) {
            GrievanceOmbud x = Standing.behind(state);
            CHECK.fails("29: joined to " + state, x, Check.NONE, () -> x.isAccepted(1));
        }
        for (boolean is : new boolean[] {true, false}) {
            GrievanceOmbud y = Standing.behind('d');
            y.accept(0, is);
            CHECK.is("29: joined, " + is, y.isAccepted(1), is);
            y.withdraw(0);
            CHECK.fails("29: received anew", y, Check.NONE, () -> y.isAccepted(1));
        }
    }

    /** "Returns how many days were left." */
    private static void p30DaysLeft() {
        for (int remedy = 1; remedy <= 4; remedy++) {
            int days = 30 * remedy;
            for (int later : new int[] {0, 1, days - 1, days}) {
                GrievanceOmbud x = Scene.withRemedy(remedy);
                Scene.until(x, 5 + later);
                CHECK.is("30: remedy " + remedy + ", " + later + " days later", x.heed(0), days - later);
                CHECK.is("30: is heeded", x.state(0), 'h');
            }
        }
    }

    /** "as long as its day is not over"; "or it is over its day" */
    private static void p30OverItsDay() {
        for (int remedy = 1; remedy <= 4; remedy++) {
            for (int behind : new int[] {1, 2, 400}) {
                GrievanceOmbud x = Scene.withRemedy(remedy);
                Scene.until(x, 5 + 30 * remedy + behind);
                CHECK.fails("30: remedy " + remedy + ", " + behind + " days over", x, Check.NOT_SO, () -> x.heed(0));
                CHECK.is("30: decided still", x.state(0), 'd');
            }
        }
    }

    /** "It heeds it, accepted or not" */
    private static void p30AcceptedOrNot() {
        for (boolean is : new boolean[] {true, false}) {
            GrievanceOmbud x = Scene.withRemedy(1);
            x.accept(0, is);
            x.pass(30);
            CHECK.is("30: accepted " + is, x.heed(0), 0);
            GrievanceOmbud y = Scene.withRemedy(1);
            y.accept(0, is);
            y.pass(31);
            CHECK.fails("30: over its day, accepted " + is, y, Check.NOT_SO, () -> y.heed(0));
        }
        CHECK.is("30: nothing told", Scene.withRemedy(1).heed(0), 30);
    }

    /** "its days begin anew" */
    private static void p30FollowedUp() {
        for (int later : new int[] {0, 1, 59, 60}) {
            GrievanceOmbud x = followedUp();
            Scene.until(x, x.today() + later);
            CHECK.is("30: " + later + " days behind that", x.heed(0), 60 - later);
        }
        GrievanceOmbud y = followedUp();
        y.pass(61);
        CHECK.fails("30: over its day anew", y, Check.NOT_SO, () -> y.heed(0));
    }

    /** "if it is joined to another one" */
    private static void p30Joined() {
        for (char state : "rasduhi".toCharArray()) {
            GrievanceOmbud x = Standing.behind(state);
            CHECK.fails("30: joined to " + state, x, Check.NOT_SO, () -> x.heed(1));
        }
        GrievanceOmbud y = Standing.behind('d');
        CHECK.is("30: the lead", y.heed(0), 30);
        CHECK.is("30: heeds the joined one, too", y.state(1), 'h');
    }

    /** "or is not decided" */
    private static void p30NotDecided() {
        for (char state : "nfrasoluhiw".toCharArray()) {
            GrievanceOmbud x = Standing.as(state);
            CHECK.fails("30: as " + state, x, Check.NOT_SO, () -> x.heed(0));
        }
    }

    /** "What is over its day can be followed up"; "or it is not over its day" */
    private static void p31OverItsDay() {
        for (int remedy = 1; remedy <= 4; remedy++) {
            int days = 30 * remedy;
            for (int later : new int[] {0, 1, days - 1, days}) {
                GrievanceOmbud x = Scene.withRemedy(remedy);
                Scene.until(x, 5 + later);
                CHECK.fails("31: remedy " + remedy + ", " + later + " days later", x, Check.NOT_SO,
                        () -> x.followUp(0));
            }
            for (int later : new int[] {days + 1, days + 2, 400}) {
                GrievanceOmbud x = Scene.withRemedy(remedy);
                Scene.until(x, 5 + later);
                CHECK.is("31: remedy " + remedy + ", " + later + " days later", x.followUp(0),
                        Math.min(4, remedy + 1));
            }
        }
        GrievanceOmbud accepted = Scene.withRemedy(1);
        accepted.accept(0, true);
        accepted.pass(30);
        CHECK.fails("31: accepted, on its day", accepted, Check.NOT_SO, () -> accepted.followUp(0));
        accepted.pass(1);
        CHECK.is("31: accepted, but not heeded", accepted.followUp(0), 2);
    }

    /** "the first time the remedy is a step higher, 4 at most" */
    private static void p31StepHigher() {
        int[] due = {0, 2, 3, 4, 4};
        for (int remedy = 1; remedy <= 4; remedy++) {
            GrievanceOmbud x = Scene.withRemedy(remedy);
            x.pass(121);
            CHECK.is("31: from " + remedy, x.followUp(0), due[remedy]);
            CHECK.is("31: is decided still", x.state(0), 'd');
            CHECK.is("27: the remedy", x.remedy(0), due[remedy]);
        }
    }

    /** "its days begin anew": from the day of following up, by the remedy of now */
    private static void p31DaysAnew() {
        for (int remedy = 1; remedy <= 4; remedy++) {
            int next = Math.min(4, remedy + 1);
            for (int day : new int[] {5 + 30 * remedy + 1, 300, 9999}) {
                GrievanceOmbud x = Scene.withRemedy(remedy);
                Scene.until(x, day);
                x.followUp(0);
                CHECK.is("31: from " + remedy + ", on day " + day, x.nextDue(), day + 30 * next);
                CHECK.fails("31: not over its day", x, Check.NOT_SO, () -> x.followUp(0));
            }
        }
    }

    /** "the second time it is 'i' ignored"; "0 if it is ignored" */
    private static void p31SecondTime() {
        for (int later : new int[] {0, 59, 60}) {
            GrievanceOmbud x = followedUp();
            Scene.until(x, x.today() + later);
            CHECK.fails("31: " + later + " days behind the first", x, Check.NOT_SO, () -> x.followUp(0));
        }
        for (int later : new int[] {61, 62, 400}) {
            GrievanceOmbud x = followedUp();
            Scene.until(x, x.today() + later);
            CHECK.is("31: " + later + " days behind the first", x.followUp(0), 0);
            CHECK.is("31: is ignored", x.state(0), 'i');
            CHECK.fails("31: a third time", x, Check.NOT_SO, () -> x.followUp(0));
            x.pass(400);
            CHECK.fails("31: a third time, later", x, Check.NOT_SO, () -> x.followUp(0));
            CHECK.fails("31: too late to heed it", x, Check.NOT_SO, () -> x.heed(0));
        }
    }

    /** "whether it is accepted is to be told anew" */
    private static void p31ToldAnew() {
        GrievanceOmbud x = Scene.withRemedy(1);
        x.accept(0, true);
        x.pass(31);
        x.followUp(0);
        CHECK.fails("31: not told yet", x, Check.NONE, () -> x.isAccepted(0));
        CHECK.is("31: told anew", x.accept(0, false), 96);
        CHECK.is("31: as told then", x.isAccepted(0), false);
        GrievanceOmbud y = followedUp();
        CHECK.is("31: told for the first time", y.accept(0, true), 96);
    }

    /** "if it is joined to another one" */
    private static void p31Joined() {
        for (char state : "rasduhi".toCharArray()) {
            GrievanceOmbud x = Standing.behind(state);
            x.pass(61);
            CHECK.fails("31: joined to " + state, x, Check.NOT_SO, () -> x.followUp(1));
        }
        GrievanceOmbud y = Standing.behind('d');
        y.pass(31);
        CHECK.is("31: the lead", y.followUp(0), 2);
        y.pass(61);
        y.followUp(0);
        CHECK.is("31: the joined one is ignored, too", y.state(1), 'i');
    }

    /** "or is not decided" */
    private static void p31NotDecided() {
        for (char state : "nfrasoluhiw".toCharArray()) {
            GrievanceOmbud x = Standing.as(state);
            x.pass(400);
            CHECK.fails("31: as " + state, x, Check.NOT_SO, () -> x.followUp(0));
        }
    }

    /** "A complaint that is not joined, nor closed, can be withdrawn"; "or is closed" */
    private static void p32NotClosed() {
        for (char state : "nfrasd".toCharArray()) {
            GrievanceOmbud x = Standing.as(state);
            CHECK.is("32: as " + state, x.withdraw(0), 0);
            CHECK.is("32: is withdrawn", x.state(0), 'w');
            CHECK.is("32: sound", x.isSound(), true);
            CHECK.fails("32: twice, as " + state, x, Check.NOT_SO, () -> x.withdraw(0));
        }
        for (char state : "oluhiw".toCharArray()) {
            GrievanceOmbud x = Standing.as(state);
            CHECK.fails("32: as " + state, x, Check.NOT_SO, () -> x.withdraw(0));
        }
    }

    /** "if it is joined to another one" */
    private static void p32Joined() {
        for (char state : "rasduhi".toCharArray()) {
            GrievanceOmbud x = Standing.behind(state);
            CHECK.fails("32: joined to " + state, x, Check.NOT_SO, () -> x.withdraw(1));
        }
        for (char state : "uhi".toCharArray()) {
            GrievanceOmbud x = Standing.behind(state);
            CHECK.fails("32: closed, with one joined to it, as " + state, x, Check.NOT_SO, () -> x.withdraw(0));
        }
        GrievanceOmbud y = Standing.behind('a');
        y.part(1);
        CHECK.is("32: parted", y.withdraw(1), 0);
        CHECK.is("32: the one that led stands as it did", y.state(0), 'a');
    }

    /** "Returns how many are received anew by that.": none and as many as there can be */
    private static void p32HowManyReceivedAnew() {
        for (int joined : new int[] {0, 1, 2, 5, 6, 18, 19}) {
            for (int lead : new int[] {0, 19}) {
                GrievanceOmbud x = Scene.received(5, 20);
                for (int i = 1; i <= joined; i++) {
                    x.join(Math.abs(lead - i), lead);
                }
                x.ask(lead);
                CHECK.is("32: so many were joined", x.withdraw(lead), joined);
                CHECK.is("32: all others are received", x.countState('r'), 19);
                CHECK.is("32: one is withdrawn", x.countState('w'), 1);
                CHECK.is("32: none is joined to it", x.countJoined(lead), 0);
            }
        }
    }

    /** "those joined to it are received anew, lead themselves" */
    private static void p32ReceivedAnewFromEach() {
        for (char state : "rasd".toCharArray()) {
            GrievanceOmbud x = Standing.behind(state);
            CHECK.is("32: one, from " + state, x.withdraw(0), 1);
            CHECK.is("32: received anew", x.state(1), 'r');
            CHECK.is("32: leads itself", x.lead(1), 1);
            CHECK.is("32: sound", x.isSound(), true);
            CHECK.is("32: is asked about anew", x.ask(1), 10);
            CHECK.is("32: is extended anew", x.extend(1, 30), 40);
            CHECK.is("32: can be withdrawn, too", x.withdraw(1), 0);
        }
    }

    /** "and have no finding" */
    private static void p32HaveNoFinding() {
        GrievanceOmbud x = Standing.behind('d');
        x.accept(0, true);
        x.withdraw(0);
        CHECK.fails("32: no heads", x, Check.NONE, () -> x.heads(1));
        CHECK.fails("32: no remedy", x, Check.NONE, () -> x.remedy(1));
        CHECK.fails("32: nothing accepted", x, Check.NONE, () -> x.isAccepted(1));
        x.ask(1);
        x.answer(1);
        CHECK.is("32: a finding of its own", x.find(1, 31), 2);
        CHECK.is("32: its own heads", x.heads(1), 31);
        CHECK.fails("32: nothing accepted of that", x, Check.NONE, () -> x.isAccepted(1));
        x.pass(61);
        CHECK.is("32: followed up for the first time", x.followUp(1), 3);
    }

    /** A lead that was followed up already, or is over its day, can be withdrawn, too. */
    private static void p32OverItsDay() {
        GrievanceOmbud x = Standing.behind('d');
        x.pass(31);
        CHECK.is("32: over its day", x.withdraw(0), 1);
        GrievanceOmbud y = Standing.behind('d');
        y.pass(31);
        y.followUp(0);
        CHECK.is("32: followed up", y.withdraw(0), 1);
        CHECK.is("32: received anew", y.state(1), 'r');
        y.ask(1);
        y.answer(1);
        y.find(1, 1);
        y.pass(31);
        CHECK.is("32: its own first time", y.followUp(1), 2);
        GrievanceOmbud z = Scene.silent(5, 1);
        CHECK.is("32: overdue", z.withdraw(0), 0);
        CHECK.is("32: not any more", z.isOverdue(0), false);
    }

    /** "those joined to it": not those joined to another one */
    private static void p32OnlyItsOwn() {
        GrievanceOmbud x = Scene.received(5, 6);
        x.join(1, 0);
        x.join(2, 0);
        x.join(4, 3);
        x.ask(0);
        x.ask(3);
        CHECK.is("32: two of its own", x.withdraw(0), 2);
        CHECK.is("32: the other lead stands as it did", x.state(3), 'a');
        CHECK.is("32: and the one joined to that", x.state(4), 'a');
        CHECK.is("32: is joined still", x.lead(4), 3);
        CHECK.is("32: one that led itself all the while", x.state(5), 'r');
    }

    /** An apology, followed up on the day 36: to put right, by the day 96. */
    private static GrievanceOmbud followedUp() {
        GrievanceOmbud x = Scene.withRemedy(1);
        x.pass(31);
        x.followUp(0);
        return x;
    }
}
