/** Promise 18, place: the BAY where one that is DOWN lets the wall stand longest, of several the lowest. */
public final class Promise18Place {
    private static final String CARTS = "c1;c1;c1;c0;c1;c1;c1;c1;c1;c1;c1;c1;";

    public static void main(String[] args) {
        Bounds.tryAll(Promise18Place.class);
    }

    private static void place(Bounds due, String text, int bay) {
        due.is(text, Check.laid(text).place(0), bay);
    }

    static void theFirstButtressIs0(Bounds due) {
        due.is("place(0)", Told.lived().place(0), 0);
        due.refused("place(-1)", Told::lived, x -> x.place(-1), Bounds.BAD);
    }

    static void theLastButtressIsOneLessThanThereAre(Bounds due) {
        ButtressWall x = Check.laid("b0,0;f0,1,0,9;f0,1,0,9;f0,1,0,9;f0,1,0,9;f0,1,0,9;f0,1,0,9;d5;");
        due.is("place(5)", x.place(5), 0);
        due.is("place(6)", x.place(6), Bounds.BAD);
        due.refused("place(4)", Told::lived, y -> y.place(4), Bounds.BAD);
        due.is("place(0) without any", Check.laid("b0,0;").place(0), Bounds.BAD);
    }

    static void numbersFarOutsideAreBad(Bounds due) {
        for (int far : Bounds.FAR) {
            due.is("place(" + far + ")", Told.lived().place(far), Bounds.BAD);
        }
    }

    static void oneThatIsUpIsRefused(Bounds due) {
        due.refused("place(1)", Told::lived, x -> x.place(1), Bounds.NO);
        due.refused("place(3)", Told::livedLong, x -> x.place(3), Bounds.NO);
    }

    static void noneIsLeftWhereAllHaveFallen(Bounds due) {
        ButtressWall x = Check.laid("b10,0;b10,0;f0,1,0,9;");
        x.pass(1);
        due.is("FALLEN", x.count(5), 2);
        due.is("place(0)", x.place(0), Bounds.NONE);
        due.is("place(1)", x.place(1), Bounds.BAD);
    }

    static void theOnlyOneThatStandsIsLeft(Bounds due) {
        ButtressWall x = Check.laid("b90,0;b90,20;b90,0;f0,1,0,9;d0;");
        x.pass(1);
        due.same("FALLEN", Check.bays(x, 6), "1 0 1");
        due.is("place(0)", x.place(0), 1);
    }

    static void oneThatFallsInTheNextHourIsStillAPlace(Bounds due) {
        place(due, "b90,0;f0,1,0,9;d0;", 0);
    }

    static void longestIsTaken(Bounds due) {
        place(due, "b10,3;b20,1;f0,20,0,30;d0;", 1);
        place(due, "b20,1;b10,3;f0,20,1,30;d0;", 0);
        place(due, "b9,1;b0,9;b9,1;f0,99,0,30;d0;", 1);
    }

    static void ofSeveralItIsTheLowest(Bounds due) {
        place(due, "b10,3;b20,1;f0,10,1,30;d0;", 0);
        place(due, "b0,0;b0,0;b0,0;b0,0;b0,0;b0,0;b0,0;b0,0;f0,10,7,30;d0;", 0);
    }

    static void theLastBayIsAPlace(Bounds due) {
        place(due, "b0,0;b0,0;b0,0;b0,0;b0,0;b0,0;b0,0;b9,0;f0,9,0,30;d0;", 7);
    }

    static void noneIsLongest(Bounds due) {
        place(due, "b0,0;b10,20;f3,10,0,30;d0;" + CARTS, 1);
        place(due, "b10,20;b0,0;f3,10,1,30;d0;" + CARTS, 0);
    }

    static void hours60AreLongerThanFewer(Bounds due) {
        place(due, "b0,0;b10,19;f3,10,0,30;d0;" + CARTS, 1);
        place(due, "b10,19;b0,0;f3,10,1,30;d0;" + CARTS, 0);
    }

    static void oneHourMoreIsLonger(Bounds due) {
        place(due, "b10,4;b10,5;f0,10,0,30;d0;", 0);
        place(due, "b10,5;b10,4;f0,10,0,30;d0;", 1);
    }

    static void oneIsPlacedHoweverTired(Bounds due) {
        ButtressWall x = Check.laid("b9,1;b8,5;f0,9,1,1;");
        x.pass(1);
        x.down(0);
        due.is("up(0)", x.up(0), Bounds.NO);
        due.is("place(0)", x.place(0), 0);
    }

    /** A YOUNG one could hold BAY 1 from 0, 1 and 2, but at 2 there is another near, and its knees bear longer. */
    static void itsKneesGiveWayThere(Bounds due) {
        place(due, "b0,0;b5,0;b0,0;b0,0;f1,20,0,5;f0,1,3,30;d0;", 2);
        place(due, "b0,0;b5,0;b0,0;b0,0;f0,20,0,5;f0,1,3,30;d0;", 0);
    }

    /** TIRED as it is, its knees give way behind an hour at each of them. */
    static void howTiredItIsIsCounted(Bounds due) {
        ButtressWall x = Check.laid("b0,0;b5,0;b0,0;b0,0;f1,20,0,4;f0,1,3,30;");
        x.pass(2);
        due.is("down(0)", x.down(0), 4);
        due.is("place(0)", x.place(0), 0);
    }

    static void aShyOneIsPlacedInAnHourWithCarts(Bounds due) {
        place(due, "b8,5;b9,1;f3,9,0,9;c1;d0;", 1);
    }

    static void theBayAtWhichItIsIsAPlaceLikeOthers(Bounds due) {
        place(due, "b9,0;b9,0;f0,27,0,30;d0;", 0);
        place(due, "b9,0;b9,0;f0,27,1,30;d0;", 0);
    }

    static void askingChangesNothing(Bounds due) {
        due.changesNothing("place(0)", Told::lived, x -> x.place(0));
        due.changesNothing("place(2)", Told::livedLong, x -> x.place(2));
    }
}
