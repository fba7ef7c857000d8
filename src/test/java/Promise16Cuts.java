/** Promise 16, cuts: the fewest of those UP by whose coming DOWN a BAY falls within 24 HOURS. */
public final class Promise16Cuts {
    public static void main(String[] args) {
        Bounds.tryAll(Promise16Cuts.class);
    }

    private static void cuts(Bounds due, String text, int set) {
        due.is(text, Check.laid(text).cuts(), set);
    }

    static void hours24AreTheirs(Bounds due) {
        cuts(due, "b10,0;f0,10,0,22;", 0);
        cuts(due, "b10,0;f0,10,0,23;", 1);
        cuts(due, "b10,0;f0,10,0,22;f0,10,0,30;", 2);
        cuts(due, "b10,0;f0,10,0,23;f0,10,0,30;", 3);
    }

    static void zeroIsWhereOneFallsAsItIs(Bounds due) {
        cuts(due, "b10,20;", 0);
        cuts(due, "b10,0;f0,9,0,30;", 0);
        cuts(due, "b10,20;f0,10,0,2;", 0);
        cuts(due, "b10,20;f0,10,0,3;", 1);
    }

    static void noneIsWhereNothingFalls(Bounds due) {
        cuts(due, "b0,0;", Bounds.NONE);
        cuts(due, "b0,0;f0,9,0,30;", Bounds.NONE);
    }

    static void noneIsWhereAllHaveFallen(Bounds due) {
        ButtressWall x = Check.laid("b10,0;f0,9,0,30;");
        x.pass(1);
        due.is("cuts()", x.cuts(), Bounds.NONE);
    }

    static void allSixAreCut(Bounds due) {
        cuts(due, "b10,0;" + "f0,10,0,30;".repeat(6), 63);
        cuts(due, "b10,0;" + "f0,10,0,30;".repeat(6) + "d0;d5;", 30);
    }

    static void fewestComeAheadOfLowest(Bounds due) {
        cuts(due, "b10,0;b10,0;f0,10,0,30;f0,10,0,30;f0,10,1,30;", 4);
        cuts(due, "b10,0;b0,0;b10,0;f0,10,0,30;f0,10,0,30;f0,10,0,30;f0,10,2,30;f0,10,2,30;", 24);
    }

    static void ofSeveralItIsTheLowest(Bounds due) {
        cuts(due, "b10,0;b10,0;f0,1,0,30;f0,10,0,30;f0,10,1,30;", 2);
        cuts(due, "b20,0;f0,1,0,30;f0,10,0,30;f0,10,0,30;", 2);
    }

    static void thoseThatAreDownAreNone(Bounds due) {
        cuts(due, "b10,0;f0,10,0,30;f0,10,0,30;d0;", 2);
    }

    static void aShyOneIsCutInAnHourWithCarts(Bounds due) {
        cuts(due, "b10,0;f3,10,0,30;c1;", 1);
    }

    static void hoursUnheldAheadAreCounted(Bounds due) {
        ButtressWall x = Check.laid("b10,20;f0,10,0,30;f0,10,0,6;d0;d1;");
        x.pass(20);
        x.up(1);
        due.is("HELD once more, and unheld anew", x.cuts(), 2);
        ButtressWall y = Check.laid("b10,20;b0,0;f0,10,0,30;f0,1,1,30;d0;");
        y.pass(4);
        due.is("unheld for 4", y.cuts(), 0);
    }

    static void askingChangesNothing(Bounds due) {
        due.changesNothing("cuts()", Told::lived, x -> x.cuts());
        due.changesNothing("cuts()", Told::livedLong, x -> x.cuts());
    }
}
