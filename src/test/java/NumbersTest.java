/**
 * "Throws IndexOutOfBoundsException if there is no such complaint", or office: each call that takes such a number,
 * with none of them, one, two, and as many as there can be.
 */
public final class NumbersTest {
    private static final Check CHECK = new Check("NumbersTest");

    public static void main(String[] args) {
        for (int complaints : new int[] {0, 1, 2, 19, 20}) {
            complaintsThatAreNot(complaints);
            complaintsThatAre(complaints);
        }
        for (int offices : new int[] {0, 1, 2, 5, 6}) {
            offices(offices);
        }
        CHECK.end();
    }

    private static void complaintsThatAreNot(int complaints) {
        GrievanceOmbud x = told(complaints);
        int[] none = {complaints, complaints + 1, 20, 21, -1, -2, Integer.MIN_VALUE, Integer.MAX_VALUE};
        for (int number : none) {
            Calls.ALL.forEach((name, call) -> CHECK.fails(name + "(" + number + ") of " + complaints, x, Check.NO_SUCH,
                    () -> call.on(x, number, 0)));
            CHECK.fails("extend by none, too", x, Check.NO_SUCH, () -> x.extend(number, 0));
            CHECK.fails("join, none for both", x, Check.NO_SUCH, () -> x.join(number, -1));
        }
    }

    /** The first and the last one are refused, if at all, for where they stand. */
    private static void complaintsThatAre(int complaints) {
        for (int number = 0; number < complaints; number += Math.max(1, complaints - 1)) {
            int one = number;
            Calls.ALL.forEach((name, call) -> {
                GrievanceOmbud x = told(complaints);
                boolean known = true;
                try {
                    call.on(x, one, 0);
                } catch (IndexOutOfBoundsException e) {
                    known = false;
                } catch (RuntimeException e) {
                    known = true;
                }
                CHECK.is(name + "(" + one + ") of " + complaints + " is known", known, true);
            });
        }
    }

    private static GrievanceOmbud told(int complaints) {
        GrievanceOmbud x = Scene.office(1);
        for (int i = 0; i < complaints; i++) {
            CHECK.is("its number", x.complain(0, 0, 0, 0), i);
        }
        return x;
    }

    private static void offices(int offices) {
        GrievanceOmbud x = new GrievanceOmbud();
        for (int i = 0; i < offices; i++) {
            CHECK.is("its number", x.addOffice(1, 1), i);
        }
        int[] none = {offices, offices + 1, 6, 7, -1, -2, Integer.MIN_VALUE, Integer.MAX_VALUE};
        for (int number : none) {
            String of = "(" + number + ") of " + offices;
            CHECK.fails("5: complain" + of, x, Check.NO_SUCH, () -> x.complain(number, 0, 0, 0));
            CHECK.fails("34: heededShare" + of, x, Check.NO_SUCH, () -> x.heededShare(number));
        }
        for (int number = 0; number < offices; number++) {
            int one = number;
            CHECK.fails("34: heededShare of a known one", x, Check.NONE_TO_DIVIDE_BY, () -> x.heededShare(one));
            CHECK.is("5: complain against a known one", x.complain(number, 0, 0, 0), number);
        }
    }
}
