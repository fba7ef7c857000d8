/** Promise 21, knees: each L from 1 to 30 by which one that is UP comes DOWN first behind n HOURS, 1 to 40. */
public final class Promise21Knees {
    private static final String CARTS = "c1;c1;c1;c0;c1;c1;c1;c1;c1;c1;c1;c1;";

    public static void main(String[] args) {
        Bounds.tryAll(Promise21Knees.class);
    }

    private static void knees(Bounds due, String text, int n, int bits) {
        due.is("knees(0, " + n + ") of " + text, Check.laid(text).knees(0, n), bits);
    }

    static void theFirstButtressIs0(Bounds due) {
        due.is("knees(0, 2)", Check.laid("b0,0;f0,5,0,9;").knees(0, 2), 1 << 1);
        due.refused("knees(-1, 1)", Told::lived, x -> x.knees(-1, 1), Bounds.BAD);
    }

    static void theLastButtressIsOneLessThanThereAre(Bounds due) {
        due.is("knees(5, 1), OLD", new ButtressWall().knees(5, 1), 1 << 1);
        due.is("knees(6, 1)", new ButtressWall().knees(6, 1), Bounds.BAD);
        due.refused("knees(4, 1)", Told::lived, x -> x.knees(4, 1), Bounds.BAD);
        due.is("knees(0, 1) without any", Check.laid("b0,0;").knees(0, 1), Bounds.BAD);
    }

    static void oneHourIsTheLeast(Bounds due) {
        knees(due, "b0,0;f2,5,0,9;", 1, 1 << 1);
        knees(due, "b0,0;f0,5,0,9;", 1, 0);
        due.refused("knees(1, 0)", Told::lived, x -> x.knees(1, 0), Bounds.BAD);
        due.refused("knees(1, -1)", Told::lived, x -> x.knees(1, -1), Bounds.BAD);
    }

    static void hours40AreTheMost(Bounds due) {
        knees(due, "b0,0;f3,5,0,9;" + CARTS, 40, 1 << 28 | 1 << 29 | 1 << 30);
        knees(due, "b0,0;f3,5,0,9;" + CARTS, 39, 0);
        due.refused("knees(1, 41)", Told::lived, x -> x.knees(1, 41), Bounds.BAD);
        due.is("knees(0, 41)", Check.laid("b0,0;f3,5,0,9;c1;c1;").knees(0, 41), Bounds.BAD);
    }

    static void numbersFarOutsideAreBad(Bounds due) {
        for (int far : Bounds.FAR) {
            due.is("knees(" + far + ", 1)", Told.lived().knees(far, 1), Bounds.BAD);
            due.is("knees(1, " + far + ")", Told.lived().knees(1, far), Bounds.BAD);
        }
    }

    static void oneThatIsDownIsRefused(Bounds due) {
        due.refused("knees(0, 1)", Told::lived, x -> x.knees(0, 1), Bounds.NO);
        due.refused("knees(2, 40)", Told::livedLong, x -> x.knees(2, 40), Bounds.NO);
    }

    static void badComesAheadOfNo(Bounds due) {
        due.is("knees(0, 0)", Told.lived().knees(0, 0), Bounds.BAD);
        due.is("knees(0, 41)", Told.lived().knees(0, 41), Bounds.BAD);
    }

    static void bit1IsTheLowest(Bounds due) {
        ButtressWall x = Check.laid("b0,0;f0,5,0,9;");
        x.pass(3);
        due.is("TIRED 3", x.knees(0, 1), 1 << 1 | 1 << 2 | 1 << 3);
        due.is("TIRED 3, behind 2", x.knees(0, 2), 1 << 4);
        knees(due, "b0,0;f0,5,0,9;", 2, 1 << 1);
    }

    static void bit30IsTheHighest(Bounds due) {
        knees(due, "b0,0;f0,5,0,9;", 30, 1 << 29);
        knees(due, "b0,0;f0,5,0,9;", 31, 1 << 30);
        knees(due, "b0,0;f0,5,0,9;", 32, 0);
        knees(due, "b0,0;f2,5,0,9;", 15, 1 << 28 | 1 << 29);
        knees(due, "b0,0;f2,5,0,9;", 16, 1 << 30);
        knees(due, "b0,0;f2,5,0,9;", 17, 0);
    }

    static void aVeryTiredOneHasAllBits(Bounds due) {
        ButtressWall x = Check.laid("b0,0;f3,5,0,9;" + "c1;".repeat(11) + "c0;");
        x.pass(11);
        due.is("TIRED 11", x.knees(0, 1), (1 << 12) - 2);
        ButtressWall y = Check.laid("b0,0;f3,5,0,30;" + "c0;" + "c1;".repeat(11));
        y.pass(24);
        y.pass(12);
        due.is("TIRED", y.buttress(0, 4), 36);
        due.is("TIRED 36", y.knees(0, 1), Integer.MAX_VALUE - 1);
        due.is("TIRED 36, behind 2", y.knees(0, 2), 0);
    }

    static void itComesDownFirstThenAndNotSooner(Bounds due) {
        knees(due, "b0,0;f2,5,0,9;", 3, 1 << 4 | 1 << 5);
        knees(due, "b0,0;f1,5,0,9;", 3, 1 << 4 | 1 << 5);
        knees(due, "b0,0;f1,5,0,9;f0,5,0,30;", 3, 1 << 2);
        knees(due, "b0,0;f3,5,0,9;c1;c1;c0;", 3, 1 << 1 | 1 << 2);
        knees(due, "b0,0;f3,5,0,9;c1;c1;c0;", 2, 0);
        knees(due, "b0,0;f3,5,0,9;c1;c1;c0;", 6, 1 << 3 | 1 << 4 | 1 << 5);
    }

    static void itsOwnLIsNoMatter(Bounds due) {
        for (int bears : new int[] {1, 5, 30}) {
            knees(due, "b0,0;f0,5,0," + bears + ";", 6, 1 << 5);
        }
        ButtressWall x = Check.laid("b0,0;f0,5,0,1;");
        x.knees(0, 6);
        due.is("L stays", x.buttress(0, 3), 1);
    }

    static void whereItsBayHasFallenThenThereIsNone(Bounds due) {
        knees(due, "b10,2;f0,5,0,30;", 2, 1 << 1);
        knees(due, "b10,2;f0,5,0,30;", 3, 0);
        knees(due, "b10,2;f0,5,0,30;", 4, 0);
        knees(due, "b10,2;f0,5,0,30;", 40, 0);
        knees(due, "b10,3;f0,5,0,30;", 3, 1 << 2);
    }

    static void whereAnotherBayHasFallenItIsNoMatter(Bounds due) {
        knees(due, "b0,0;b10,2;f0,9,0,30;", 3, 1 << 2);
        knees(due, "b0,0;b10,2;f0,9,0,30;", 4, 1 << 3);
    }

    static void askingChangesNothing(Bounds due) {
        due.changesNothing("knees(1, 40)", Told::lived, x -> x.knees(1, 40));
        due.changesNothing("knees(3, 3)", Told::livedLong, x -> x.knees(3, 3));
    }
}
