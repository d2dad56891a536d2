/** Objects brought to where a test begins, by calls of the face alone. */
final class Scene {
    static final int ALL_MATTERS = 1023;

    private Scene() {
    }

    /** One office with that many days for its answers, and all matters within reach. */
    static GrievanceOmbud office(int days) {
        GrievanceOmbud x = new GrievanceOmbud();
        x.addOffice(days, ALL_MATTERS);
        return x;
    }

    /** One office, so many complaints of matter 0 told on day 0, all received on the day that the office has days. */
    static GrievanceOmbud received(int days, int complaints) {
        GrievanceOmbud x = office(days);
        for (int i = 0; i < complaints; i++) {
            x.complain(0, 0, i, 0);
            x.takeStep(i);
        }
        x.pass(days);
        for (int i = 0; i < complaints; i++) {
            x.examine(i);
        }
        return x;
    }

    /** As received; then the complaint 0 is asked about. */
    static GrievanceOmbud asked(int days, int complaints) {
        GrievanceOmbud x = received(days, complaints);
        x.ask(0);
        return x;
    }

    /** As received; then all others are joined to the complaint 0, and it is answered at once. */
    static GrievanceOmbud studied(int days, int complaints) {
        GrievanceOmbud x = received(days, complaints);
        for (int i = 1; i < complaints; i++) {
            x.join(i, 0);
        }
        x.ask(0);
        x.answer(0);
        return x;
    }

    /** As studied; then found with those heads. */
    static GrievanceOmbud decided(int days, int complaints, int heads) {
        GrievanceOmbud x = studied(days, complaints);
        x.find(0, heads);
        return x;
    }

    /** As asked; then three times reminded of, and overdue once more. */
    static GrievanceOmbud silent(int days, int complaints) {
        GrievanceOmbud x = asked(days, complaints);
        x.pass(days + 1);
        for (int i = 0; i < 3; i++) {
            x.remind(0);
            x.pass(8);
        }
        return x;
    }

    /** As silent; then the silence is taken as it is. */
    static GrievanceOmbud studiedBySilence(int days, int complaints) {
        GrievanceOmbud x = silent(days, complaints);
        x.takeSilence(0);
        return x;
    }

    /** One complaint, decided on the day 5 with that remedy, by the least sum that leads to it. */
    static GrievanceOmbud withRemedy(int remedy) {
        int[] leastSums = {0, 1, 4, 10, 16};
        GrievanceOmbud x = studied(5, 1);
        x.find(0, spread(x, leastSums[remedy]));
        return x;
    }

    /** Weighs the heads so that some of them make that sum, 1 to 45, and tells which, as bits. */
    static int spread(GrievanceOmbud x, int sum) {
        int heads = 0;
        int rest = sum;
        for (int head = 0; head < 5 && rest > 0; head++) {
            int weight = Math.min(rest, 9);
            x.setWeight(head, weight);
            heads |= 1 << head;
            rest -= weight;
        }
        return heads;
    }

    /** Lets days pass until it is that day. */
    static void until(GrievanceOmbud x, int day) {
        while (x.today() < day) {
            x.pass(Math.min(400, day - x.today()));
        }
    }
}
