/** Promise 14, stands: behind how many of 60 HOURS a BAY falls first, and which. */
public final class Promise14Stands {
    /** By it a SHY one whose knees bear 30 comes DOWN behind 40 HOURS: there are none in hours 3, 15, 27, 39. */
    private static final String CARTS = "c1;c1;c1;c0;c1;c1;c1;c1;c1;c1;c1;c1;";

    public static void main(String[] args) {
        Bounds.tryAll(Promise14Stands.class);
    }

    private static void stands(Bounds due, String text, int hours, int bay) {
        ButtressWall x = Check.laid(text);
        due.is("stands(0) of " + text, x.stands(0), hours);
        due.is("stands(1) of " + text, x.stands(1), bay);
    }

    static void whatIs0Or1(Bounds due) {
        due.is("stands(0)", new ButtressWall().stands(0), 3);
        due.is("stands(1)", new ButtressWall().stands(1), 2);
        due.refused("stands(-1)", Told::lived, x -> x.stands(-1), Bounds.BAD);
        due.refused("stands(2)", Told::lived, x -> x.stands(2), Bounds.BAD);
        for (int far : Bounds.FAR) {
            due.is("stands(" + far + ")", Told.lived().stands(far), Bounds.BAD);
        }
    }

    static void badComesAheadOfNone(Bounds due) {
        due.is("stands(2)", Check.laid("b0,0;").stands(2), Bounds.BAD);
        due.is("stands(-1)", Check.laid("b0,0;").stands(-1), Bounds.BAD);
    }

    static void oneHourIsTheLeast(Bounds due) {
        stands(due, "b1,0;", 1, 0);
        stands(due, "b1,1;", 2, 0);
        stands(due, "b1,20;", 21, 0);
    }

    static void hours60AreTheMost(Bounds due) {
        stands(due, "b10,18;f3,10,0,30;" + CARTS, 59, 0);
        stands(due, "b10,19;f3,10,0,30;" + CARTS, 60, 0);
        stands(due, "b10,20;f3,10,0,30;" + CARTS, Bounds.NONE, Bounds.NONE);
    }

    static void theyAreCountedFromNowOn(Bounds due) {
        ButtressWall x = Check.laid("b10,20;f3,10,0,30;" + CARTS);
        x.pass(1);
        due.is("stands(0) in hour 1", x.stands(0), 60);
        x.pass(24);
        due.is("stands(0) in hour 25", x.stands(0), 36);
        x.pass(24);
        x.pass(11);
        due.is("stands(0) in hour 60", x.stands(0), 1);
    }

    static void hoursUnheldAheadAreCounted(Bounds due) {
        ButtressWall x = Check.laid("b10,2;");
        x.pass(2);
        due.is("stands(0)", x.stands(0), 1);
    }

    static void noneFallsWhereAllAreHeld(Bounds due) {
        stands(due, "b0,0;", Bounds.NONE, Bounds.NONE);
        stands(due, "b0,0;b0,0;f0,1,0,1;", Bounds.NONE, Bounds.NONE);
    }

    static void noneFallsWhereAllHaveFallen(Bounds due) {
        ButtressWall x = Check.laid("b1,0;b1,0;");
        x.pass(1);
        due.is("FALLEN", x.count(5), 2);
        due.is("stands(0)", x.stands(0), Bounds.NONE);
        due.is("stands(1)", x.stands(1), Bounds.NONE);
    }

    static void oneThatHasFallenIsNotAskedForAgain(Bounds due) {
        ButtressWall x = Check.laid("b10,0;b5,9;");
        x.pass(1);
        due.is("stands(0)", x.stands(0), 9);
        due.is("stands(1)", x.stands(1), 1);
    }

    static void ofSeveralItIsTheLowest(Bounds due) {
        stands(due, "b0,0;b10,2;b10,2;b10,2;", 3, 1);
        stands(due, "b10,3;b10,2;b0,0;b10,2;", 3, 1);
        stands(due, "b0,0;b0,0;b0,0;b0,0;b0,0;b0,0;b0,0;b9,0;", 1, 7);
    }

    static void itIsTheFirstToFallNotTheLowest(Bounds due) {
        stands(due, "b10,5;b10,4;b10,3;", 4, 2);
    }

    static void kneesGiveWayInTheseHours(Bounds due) {
        stands(due, "b10,0;f0,10,0,1;", 3, 0);
        stands(due, "b10,0;f2,10,0,1;", 2, 0);
        stands(due, "b10,0;f1,10,0,1;", 2, 0);
        stands(due, "b10,0;f1,10,0,1;f0,1,0,30;", 3, 0);
        stands(due, "b10,0;f3,10,0,1;c0;c1;c1;c0;", 5, 0);
    }

    static void askingChangesNothing(Bounds due) {
        due.changesNothing("stands(0)", Told::lived, x -> x.stands(0));
        due.changesNothing("stands(1)", Told::livedLong, x -> x.stands(1));
    }
}
