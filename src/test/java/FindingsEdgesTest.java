/** Promises 24 to 27 at their edges: above each method stands the sentence of the document that it tests. */
public final class FindingsEdgesTest {
    private static final Check CHECK = new Check("FindingsEdgesTest");
    private static final int LEAST = Integer.MIN_VALUE;
    private static final int MOST = Integer.MAX_VALUE;

    public static void main(String[] args) {
        p24Heads();
        p24Weights();
        p24OneAtFirst();
        p25Heads();
        p25HeadsOutOfRange();
        p25Ladder();
        p25LadderWithJoined();
        p25JoinedCountFiveAtMost();
        p25JoinedAtTheFinding();
        p25EachHead();
        p25WeightsAsTheyAreThen();
        p25WithoutHeads();
        p25SilenceAddsTheHead0();
        p25SilenceWithTheHead0();
        p25AnswerIsNoSilence();
        p25Joined();
        p25NotStudied();
        p25ThirtyDaysForEachStep();
        p26EachFinding();
        p26Silence();
        p26None();
        p26Joined();
        p27EachRemedy();
        p27ByNow();
        p27None();
        p27Joined();
        CHECK.end();
    }

    /** "head: 0 to 4" */
    private static void p24Heads() {
        GrievanceOmbud x = new GrievanceOmbud();
        for (int head = 0; head <= 4; head++) {
            CHECK.is("24: head " + head, x.setWeight(head, 9), 1);
        }
        for (int head : new int[] {-1, 5, 6, LEAST, MOST}) {
            CHECK.fails("24: head " + head, x, Check.RANGE, () -> x.setWeight(head, 1));
            CHECK.fails("24: head " + head + ", and weight 10", x, Check.RANGE, () -> x.setWeight(head, 10));
        }
        for (int head = 0; head <= 4; head++) {
            CHECK.is("24: the one before, of " + head, x.setWeight(head, 1), 9);
        }
    }

    /** "weight: 1 to 9"; "Returns the one before." */
    private static void p24Weights() {
        GrievanceOmbud x = new GrievanceOmbud();
        int before = 1;
        for (int weight = 9; weight >= 1; weight--) {
            CHECK.is("24: weight " + weight, x.setWeight(4, weight), before);
            before = weight;
        }
        for (int weight : new int[] {0, 10, -1, 11, LEAST, MOST}) {
            CHECK.fails("24: weight " + weight, x, Check.RANGE, () -> x.setWeight(0, weight));
            CHECK.fails("24: weight " + weight + ", last head", x, Check.RANGE, () -> x.setWeight(4, weight));
        }
        CHECK.is("24: the same again", x.setWeight(4, 1), 1);
        CHECK.is("24: and again", x.setWeight(4, 1), 1);
    }

    /** "each has a weight of 1 to 9, 1 at first" */
    private static void p24OneAtFirst() {
        for (int head = 0; head <= 4; head++) {
            GrievanceOmbud x = new GrievanceOmbud();
            CHECK.is("24: at first, of " + head, x.setWeight(head, 7), 1);
            for (int other = 0; other <= 4; other++) {
                CHECK.is("24: then, of " + other, x.setWeight(other, 1), other == head ? 7 : 1);
            }
        }
    }

    /** "heads: 0 to 31" */
    private static void p25Heads() {
        for (int heads = 0; heads <= 31; heads++) {
            GrievanceOmbud x = Scene.studied(5, 1);
            int due = heads == 0 ? 0 : Integer.bitCount(heads) > 3 ? 2 : 1;
            CHECK.is("25: heads " + heads, x.find(0, heads), due);
            CHECK.is("25: stands so", x.state(0), heads == 0 ? 'u' : 'd');
            CHECK.is("25: sound", x.isSound(), true);
        }
    }

    /** "Throws IllegalArgumentException if a number is out of range" */
    private static void p25HeadsOutOfRange() {
        GrievanceOmbud x = Scene.studied(5, 1);
        for (int heads : new int[] {-1, 32, 33, 63, 64, LEAST, MOST}) {
            CHECK.fails("25: heads " + heads, x, Check.RANGE, () -> x.find(0, heads));
        }
        CHECK.is("25: studied still", x.state(0), 's');
        CHECK.fails("26: no finding by that", x, Check.NONE, () -> x.heads(0));
    }

    /** "1 an apology, by a sum up to 3, 2 to put right, up to 9, 3 to pay, up to 15, 4 to change the rule, above" */
    private static void p25Ladder() {
        for (int sum = 1; sum <= 45; sum++) {
            GrievanceOmbud x = Scene.studied(5, 1);
            CHECK.is("25: sum " + sum, x.find(0, Scene.spread(x, sum)), remedyBy(sum));
        }
    }

    /** "Its sum is that of the weights of its heads, ..., and the number of complaints joined to it" */
    private static void p25LadderWithJoined() {
        for (int joined = 0; joined <= 6; joined++) {
            for (int weights = 1; weights <= 17; weights++) {
                GrievanceOmbud x = Scene.studied(5, joined + 1);
                int sum = weights + Math.min(joined, 5);
                CHECK.is("25: weights " + weights + " and " + joined + " joined",
                        x.find(0, Scene.spread(x, weights)), remedyBy(sum));
            }
        }
    }

    private static int remedyBy(int sum) {
        return sum <= 3 ? 1 : sum <= 9 ? 2 : sum <= 15 ? 3 : 4;
    }

    /** "which counts 5 at most" */
    private static void p25JoinedCountFiveAtMost() {
        for (int joined : new int[] {4, 5, 6, 7, 19}) {
            GrievanceOmbud nine = Scene.studied(5, joined + 1);
            CHECK.is("25: 5 and " + joined, nine.find(0, Scene.spread(nine, 5)), joined < 5 ? 2 : 3);
            GrievanceOmbud ten = Scene.studied(5, joined + 1);
            CHECK.is("25: 4 and " + joined, ten.find(0, Scene.spread(ten, 4)), 2);
            GrievanceOmbud fifteen = Scene.studied(5, joined + 1);
            CHECK.is("25: 10 and " + joined, fifteen.find(0, Scene.spread(fifteen, 10)), 3);
            GrievanceOmbud sixteen = Scene.studied(5, joined + 1);
            CHECK.is("25: 11 and " + joined, sixteen.find(0, Scene.spread(sixteen, 11)), joined < 5 ? 3 : 4);
        }
    }

    /** "the number of complaints joined to it": those that are joined when it is found */
    private static void p25JoinedAtTheFinding() {
        GrievanceOmbud parted = Scene.studied(5, 4);
        parted.part(3);
        CHECK.is("25: 1 and 2, one parted", parted.find(0, 1), 1);
        GrievanceOmbud late = Scene.received(5, 4);
        late.ask(0);
        late.join(1, 0);
        late.answer(0);
        late.join(2, 0);
        late.join(3, 0);
        CHECK.is("25: 1 and 3, joined at last", late.find(0, 1), 2);
        GrievanceOmbud others = Scene.received(5, 6);
        for (int i = 2; i < 6; i++) {
            others.join(i, 1);
        }
        others.ask(0);
        others.answer(0);
        CHECK.is("25: those joined to another one do not count", others.find(0, 1), 1);
    }

    /** "the weights of its heads": of each head, and of no other one */
    private static void p25EachHead() {
        for (int heads = 1; heads <= 31; heads++) {
            for (int heavy = 0; heavy <= 4; heavy++) {
                GrievanceOmbud x = Scene.studied(5, 1);
                x.setWeight(heavy, 9);
                boolean has = (heads >> heavy & 1) == 1;
                int sum = Integer.bitCount(heads) + (has ? 8 : 0);
                CHECK.is("25: heads " + heads + ", heavy " + heavy, x.find(0, heads), remedyBy(sum));
            }
        }
    }

    /** "as they are then" */
    private static void p25WeightsAsTheyAreThen() {
        GrievanceOmbud x = Scene.received(5, 2);
        x.setWeight(2, 9);
        x.ask(0);
        x.setWeight(2, 3);
        x.answer(0);
        CHECK.is("25: the weight set last", x.find(0, 4), 1);
        x.setWeight(2, 9);
        CHECK.is("27: not the one set behind it", x.remedy(0), 1);
        x.pass(31);
        CHECK.is("31: nor when it is followed up", x.followUp(0), 2);
        x.ask(1);
        x.setWeight(2, 4);
        x.answer(1);
        CHECK.is("25: another finding, another weight", x.find(1, 4), 2);
        CHECK.is("37: sound", x.isSound(), true);
    }

    /** "Without heads it is 'u' unfounded."; "Returns the remedy, 0 if it is unfounded." */
    private static void p25WithoutHeads() {
        for (int joined : new int[] {0, 1, 5, 19}) {
            GrievanceOmbud x = Scene.studied(5, joined + 1);
            for (int head = 0; head <= 4; head++) {
                x.setWeight(head, 9);
            }
            CHECK.is("25: without heads, and " + joined + " joined", x.find(0, 0), 0);
            CHECK.is("25: so many are unfounded", x.countState('u'), joined + 1);
            CHECK.fails("25: closed", x, Check.NOT_SO, () -> x.find(0, 1));
            CHECK.fails("27: no remedy", x, Check.NONE, () -> x.remedy(0));
        }
    }

    /** "silence adds the head 0" */
    private static void p25SilenceAddsTheHead0() {
        for (int heads = 0; heads <= 31; heads++) {
            GrievanceOmbud x = Scene.studiedBySilence(5, 1);
            int count = Integer.bitCount(heads | 1);
            CHECK.is("25: silence and heads " + heads, x.find(0, heads), count > 3 ? 2 : 1);
            CHECK.is("25: decided", x.state(0), 'd');
            CHECK.is("26: its heads", x.heads(0), heads | 1);
        }
        GrievanceOmbud y = Scene.studiedBySilence(5, 1);
        y.setWeight(0, 4);
        CHECK.is("25: the weight of the head 0", y.find(0, 0), 2);
    }

    /** "silence adds the head 0": once, where it is told besides */
    private static void p25SilenceWithTheHead0() {
        GrievanceOmbud x = Scene.studiedBySilence(5, 1);
        x.setWeight(0, 3);
        CHECK.is("25: 3, not 6", x.find(0, 1), 1);
        GrievanceOmbud y = Scene.studiedBySilence(5, 1);
        y.setWeight(0, 9);
        CHECK.is("25: 9, not 18", y.find(0, 1), 2);
        GrievanceOmbud z = Scene.silent(5, 3);
        z.join(1, 0);
        z.takeSilence(0);
        z.join(2, 0);
        z.setWeight(0, 2);
        CHECK.is("25: 2 and 2 joined", z.find(0, 0), 2);
        CHECK.is("26: of one joined behind the silence, too", z.heads(2), 1);
    }

    /** "so does, without one, looking at what is overdue behind three reminders, which is silence" */
    private static void p25AnswerIsNoSilence() {
        GrievanceOmbud x = Scene.silent(5, 1);
        x.answer(0);
        CHECK.is("25: an answer at last", x.find(0, 0), 0);
        GrievanceOmbud y = Scene.silent(5, 1);
        y.answer(0);
        y.find(0, 2);
        CHECK.is("26: only the heads told", y.heads(0), 2);
        GrievanceOmbud z = Scene.silent(5, 2);
        z.takeSilence(0);
        z.ask(1);
        z.answer(1);
        CHECK.is("25: another one's silence", z.find(1, 0), 0);
    }

    /** "if it is joined to another one" */
    private static void p25Joined() {
        for (char state : "rasduhi".toCharArray()) {
            GrievanceOmbud x = Standing.behind(state);
            CHECK.fails("25: joined to " + state, x, Check.NOT_SO, () -> x.find(1, 31));
            CHECK.fails("25: joined to " + state + ", without heads", x, Check.NOT_SO, () -> x.find(1, 0));
        }
        GrievanceOmbud y = Standing.behind('s');
        CHECK.is("25: the lead", y.find(0, 31), 2);
        CHECK.is("25: decides the joined one, too", y.state(1), 'd');
    }

    /** "or is not studied" */
    private static void p25NotStudied() {
        for (char state : "nfradoluhiw".toCharArray()) {
            GrievanceOmbud x = Standing.as(state);
            CHECK.fails("25: as " + state, x, Check.NOT_SO, () -> x.find(0, 31));
            CHECK.fails("25: as " + state + ", without heads", x, Check.NOT_SO, () -> x.find(0, 0));
        }
    }

    /** "It is to be heeded within 30 days for each step of the remedy." */
    private static void p25ThirtyDaysForEachStep() {
        for (int remedy = 1; remedy <= 4; remedy++) {
            CHECK.is("19: the remedy " + remedy, Scene.withRemedy(remedy).nextDue(), 5 + 30 * remedy);
            CHECK.is("28: the remedy " + remedy, Scene.withRemedy(remedy).accept(0, true), 5 + 30 * remedy);
            CHECK.is("30: the remedy " + remedy, Scene.withRemedy(remedy).heed(0), 30 * remedy);
        }
        GrievanceOmbud last = Scene.studied(5, 1);
        Scene.until(last, 9999);
        CHECK.is("25: on the last day", last.find(0, Scene.spread(last, 45)), 4);
        CHECK.is("28: beyond the last day", last.accept(0, false), 9999 + 120);
        CHECK.is("30: and as many days left", last.heed(0), 120);
    }

    /** "Returns the heads" */
    private static void p26EachFinding() {
        for (int heads = 0; heads <= 31; heads++) {
            GrievanceOmbud x = Scene.decided(5, 2, heads);
            CHECK.is("26: heads " + heads, x.heads(0), heads);
            CHECK.is("26: of the joined one", x.heads(1), heads);
        }
        GrievanceOmbud y = Scene.decided(5, 1, 21);
        y.pass(31);
        y.followUp(0);
        CHECK.is("26: followed up", y.heads(0), 21);
        y.pass(61);
        y.followUp(0);
        CHECK.is("26: ignored", y.heads(0), 21);
    }

    /** "silence counted" */
    private static void p26Silence() {
        GrievanceOmbud x = Scene.silent(5, 2);
        x.join(1, 0);
        x.takeSilence(0);
        CHECK.fails("26: not before the finding", x, Check.NONE, () -> x.heads(0));
        x.find(0, 0);
        CHECK.is("26: silence alone", x.heads(0), 1);
        CHECK.is("26: of the joined one", x.heads(1), 1);
        GrievanceOmbud y = Scene.studiedBySilence(5, 1);
        y.find(0, 30);
        CHECK.is("26: silence and all others", y.heads(0), 31);
    }

    /** "Throws NoSuchElementException if there was none" */
    private static void p26None() {
        for (char state : "nfrasolw".toCharArray()) {
            GrievanceOmbud x = Standing.as(state);
            CHECK.fails("26: as " + state, x, Check.NONE, () -> x.heads(0));
        }
        for (char state : "duhi".toCharArray()) {
            CHECK.is("26: as " + state, Standing.as(state).heads(0), state == 'u' ? 0 : 1);
        }
    }

    /** "Of a joined complaint what is told of answers, findings and remedies is that of its lead." */
    private static void p26Joined() {
        for (char state : "ras".toCharArray()) {
            GrievanceOmbud x = Standing.behind(state);
            CHECK.fails("26: joined to " + state, x, Check.NONE, () -> x.heads(1));
        }
        for (char state : "duhi".toCharArray()) {
            CHECK.is("26: joined to " + state, Standing.behind(state).heads(1), state == 'u' ? 0 : 1);
        }
        GrievanceOmbud y = Standing.behind('d');
        y.withdraw(0);
        CHECK.fails("32: have no finding", y, Check.NONE, () -> y.heads(1));
        GrievanceOmbud z = Scene.decided(5, 2, 6);
        CHECK.fails("21: cannot be parted from that", z, Check.NOT_SO, () -> z.part(1));
        CHECK.is("26: so it has it still", z.heads(1), 6);
    }

    /** "Returns 1 to 4" */
    private static void p27EachRemedy() {
        for (int remedy = 1; remedy <= 4; remedy++) {
            CHECK.is("27: remedy " + remedy, Scene.withRemedy(remedy).remedy(0), remedy);
        }
    }

    /** "as it is by now" */
    private static void p27ByNow() {
        for (int remedy = 1; remedy <= 4; remedy++) {
            GrievanceOmbud x = Scene.withRemedy(remedy);
            x.pass(121);
            CHECK.is("27: over its day", x.remedy(0), remedy);
            int next = Math.min(4, remedy + 1);
            x.followUp(0);
            CHECK.is("27: a step higher, 4 at most", x.remedy(0), next);
            x.pass(121);
            x.followUp(0);
            CHECK.is("27: ignored, the last one stays", x.remedy(0), next);
            GrievanceOmbud y = Scene.withRemedy(remedy);
            y.heed(0);
            CHECK.is("27: heeded", y.remedy(0), remedy);
        }
    }

    /** "Throws NoSuchElementException if there is none" */
    private static void p27None() {
        for (char state : "nfrasoluw".toCharArray()) {
            GrievanceOmbud x = Standing.as(state);
            CHECK.fails("27: as " + state, x, Check.NONE, () -> x.remedy(0));
        }
        CHECK.is("27: as d", Standing.as('d').remedy(0), 1);
        CHECK.is("27: as h", Standing.as('h').remedy(0), 1);
        CHECK.is("27: as i", Standing.as('i').remedy(0), 2);
    }

    /** "Of a joined complaint what is told of answers, findings and remedies is that of its lead." */
    private static void p27Joined() {
        for (char state : "rasu".toCharArray()) {
            GrievanceOmbud x = Standing.behind(state);
            CHECK.fails("27: joined to " + state, x, Check.NONE, () -> x.remedy(1));
        }
        CHECK.is("27: joined to d", Standing.behind('d').remedy(1), 1);
        CHECK.is("27: joined to h", Standing.behind('h').remedy(1), 1);
        CHECK.is("27: joined to i", Standing.behind('i').remedy(1), 2);
        GrievanceOmbud y = Standing.behind('d');
        y.withdraw(0);
        CHECK.fails("32: have no finding", y, Check.NONE, () -> y.remedy(1));
    }
}
