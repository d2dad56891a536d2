/** Objects in which the complaint 0, or the lead of the complaint 1, stands as it is asked for. */
final class Standing {
    static final String ALL = "nfrasdoluhiw";
    static final int COMPLAINTS = 2;

    private Standing() {
    }

    /** The complaint 0 stands so and leads itself; the complaint 1 is received. */
    static GrievanceOmbud as(char state) {
        switch (state) {
            case 'n':
            case 'f':
            case 'o':
                return atIntake(state);
            case 'l':
                return late();
            case 'w':
                GrievanceOmbud withdrawn = Scene.received(5, 2);
                withdrawn.withdraw(0);
                return withdrawn;
            default:
                return led(Scene.received(5, 2), state);
        }
    }

    /** The complaint 0 stands so, one of "rasduhi", and the complaint 1 is joined to it. */
    static GrievanceOmbud behind(char state) {
        GrievanceOmbud x = Scene.received(5, 2);
        x.join(1, 0);
        return led(x, state);
    }

    private static GrievanceOmbud atIntake(char state) {
        GrievanceOmbud x = Scene.office(5);
        x.complain(0, 0, 0, 0);
        x.complain(0, 0, 1, 0);
        x.takeStep(1);
        x.pass(5);
        x.examine(1);
        if (state == 'o') {
            x.setCourt(0, true);
        }
        if (state != 'n') {
            x.examine(0);
        }
        return x;
    }

    private static GrievanceOmbud late() {
        GrievanceOmbud x = Scene.office(5);
        x.pass(366);
        x.complain(0, 0, 0, 0);
        x.examine(0);
        x.complain(0, 0, 1, 366);
        x.takeStep(1);
        x.pass(5);
        x.examine(1);
        return x;
    }

    /** Leads the complaint 0, which is received, to where it shall stand. */
    private static GrievanceOmbud led(GrievanceOmbud x, char state) {
        if (state == 'r') {
            return x;
        }
        x.ask(0);
        if (state == 'a') {
            return x;
        }
        x.answer(0);
        if (state == 's') {
            return x;
        }
        x.find(0, state == 'u' ? 0 : 1);
        if (state == 'h') {
            x.heed(0);
        }
        if (state == 'i') {
            x.pass(31);
            x.followUp(0);
            x.pass(61);
            x.followUp(0);
        }
        return x;
    }
}
