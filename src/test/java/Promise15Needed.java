/** Promise 15, needed: the fewest that hold all for 12 HOURS, of several the lowest as bits. */
public final class Promise15Needed {
    public static void main(String[] args) {
        Bounds.tryAll(Promise15Needed.class);
    }

    private static void needed(Bounds due, String text, int set) {
        due.is(text, Check.laid(text).needed(), set);
    }

    static void hours12AreTheirs(Bounds due) {
        needed(due, "b10,11;", Bounds.NONE);
        needed(due, "b10,12;", 0);
        needed(due, "b10,0;f0,10,0,10;", Bounds.NONE);
        needed(due, "b10,0;f0,10,0,11;", 1);
    }

    static void noneIsNeededWhereNothingFalls(Bounds due) {
        needed(due, "b0,0;", 0);
        needed(due, "b0,0;f0,9,0,9;", 0);
    }

    static void nobodyIsEnough(Bounds due) {
        needed(due, "b10,0;", Bounds.NONE);
        needed(due, "b10,0;f0,9,0,30;", Bounds.NONE);
        needed(due, "b10,0;f0,10,0,30;", 1);
    }

    static void noSetIsEnoughWhereKneesGiveWay(Bounds due) {
        needed(due, "b10,0;f0,10,0,5;f0,10,0,5;", Bounds.NONE);
    }

    static void allSixAreNeeded(Bounds due) {
        needed(due, "b60,0;" + "f0,10,0,30;".repeat(6), 63);
        needed(due, "b60,0;" + "f0,10,0,30;".repeat(6) + "d0;d1;d2;d3;d4;d5;", 63);
        needed(due, "b61,0;" + "f0,10,0,30;".repeat(6), Bounds.NONE);
    }

    static void fewestComeAheadOfLowest(Bounds due) {
        needed(due, "b10,0;f0,5,0,30;f0,5,0,30;f0,10,0,30;", 4);
        needed(due, "b20,0;f0,7,0,30;f0,7,0,30;f0,7,0,30;f0,1,0,30;f0,10,0,30;f0,10,0,30;", 48);
    }

    static void ofSeveralItIsTheLowest(Bounds due) {
        needed(due, "b10,0;f0,9,0,30;f0,10,0,30;f0,10,0,30;", 2);
        needed(due, "b20,0;f0,10,0,30;f0,9,0,30;f0,10,0,30;f0,11,0,30;", 5);
    }

    static void thoseThatAreDownAreTakenToo(Bounds due) {
        needed(due, "b10,0;f0,10,0,30;d0;", 1);
    }

    static void allOthersAreDown(Bounds due) {
        needed(due, "b10,0;b0,0;f1,10,0,11;f0,1,1,30;", 3);
        needed(due, "b10,0;b0,0;f1,10,0,23;f0,1,1,30;", 1);
    }

    static void thoseAtAFallenBayAreNone(Bounds due) {
        ButtressWall x = Check.laid("b20,0;b10,12;f0,99,0,30;f0,20,1,30;d0;d1;");
        due.is("ahead", x.needed(), 1);
        x.pass(1);
        due.is("FALLEN", x.bay(0, 6), 1);
        due.is("behind", x.needed(), 2);
        x.send(1, 0);
        due.is("with none left", x.needed(), Bounds.NONE);
    }

    /** Were one UP at the FALLEN BAY for an hour, the YOUNG one next to it would tire by 1 less. */
    static void thoseAtAFallenBayAreNoHelpToAYoungOne(Bounds due) {
        for (int bears = 23; bears <= 24; bears++) {
            ButtressWall x = Check.laid("b50,0;b9,0;f0,1,0,30;f1,40,1," + bears + ";d0;");
            x.pass(1);
            due.same("FALLEN", Check.bays(x, 6), "1 0");
            due.is("TIRED", x.buttress(1, 4), 2);
            due.is("needed(), L " + bears, x.needed(), bears == 24 ? 2 : Bounds.NONE);
        }
    }

    static void howTiredTheyAreIsCounted(Bounds due) {
        ButtressWall x = Check.laid("b10,0;f0,10,0,20;");
        x.pass(9);
        due.is("needed(), TIRED 9 by 20", x.needed(), 1);
        x.pass(1);
        due.is("needed(), TIRED 10 by 20", x.needed(), Bounds.NONE);
    }

    static void nobodyIsNeededWhereAllHaveFallen(Bounds due) {
        ButtressWall x = Check.laid("b20,0;f0,9,0,30;");
        x.pass(1);
        due.is("needed()", x.needed(), 0);
    }

    static void hoursUnheldAheadAreCounted(Bounds due) {
        ButtressWall x = Check.laid("b10,12;f0,10,0,30;d0;");
        due.is("ahead", x.needed(), 0);
        x.pass(1);
        due.is("behind", x.needed(), 1);
    }

    static void aShyOneIsTakenInAnHourWithCarts(Bounds due) {
        ButtressWall x = Check.laid("b10,12;f3,10,0,30;c1;d0;");
        x.pass(1);
        due.is("up(0)", x.up(0), Bounds.NO);
        due.is("needed()", x.needed(), 1);
    }

    /** Its knees give way behind the next hour, but in that one it holds, and the BAY is unheld anew from then on. */
    static void oneTooTiredToGoUpIsTaken(Bounds due) {
        ButtressWall x = Check.laid("b10,12;b90,20;f0,10,1,2;");
        x.pass(2);
        x.down(0);
        x.send(0, 0);
        due.is("up(0), as TIRED as L", x.up(0), Bounds.NO);
        due.is("unheld", x.bay(0, 5), 2);
        due.is("needed()", x.needed(), 1);
    }

    static void askingChangesNothing(Bounds due) {
        due.changesNothing("needed()", Told::lived, x -> x.needed());
        due.changesNothing("needed()", Told::livedLong, x -> x.needed());
    }
}
