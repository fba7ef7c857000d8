/** Promises 14 to 19: stands, needed, cuts, roster, place, strong. */
public final class HowLongTest {
    private static final Check CHECK = new Check();
    private static final int NO = ButtressWall.NO, BAD = ButtressWall.BAD, NONE = ButtressWall.NONE;
    private static final String LATE = "f3,10,0,30;c1;c1;c1;c0;c1;c1;c1;c1;c1;c1;c1;c1;";

    public static void main(String[] args) {
        standing();
        standingForSixtyHours();
        needed();
        neededWithinTwelveHours();
        neededWhereOneHasFallen();
        cuts();
        cutsWithinADay();
        rostersByTurns();
        rostersByKneesAndCarts();
        wrongRosters();
        places();
        placesOfTheTired();
        wrongPlaces();
        strong();
        nothingIsChanged();
        CHECK.end();
    }

    private static void standing() {
        ButtressWall x = Check.laid("b0,0;b10,2;b10,2;b5,9;");
        CHECK.due("stands(0)", x.stands(0), 3);
        CHECK.due("stands(1), of several", x.stands(1), 1);
        for (int what : new int[] {-1, 2, Integer.MIN_VALUE, Integer.MAX_VALUE}) {
            CHECK.due("stands(" + what + ")", x.stands(what), BAD);
        }
        x.pass(2);
        CHECK.due("stands(0) behind 2", x.stands(0), 1);
        x.pass(1);
        CHECK.due("stands(0) by what has FALLEN", x.stands(0), 1);
        CHECK.due("stands(1) by what has FALLEN", x.stands(1), 0);
        x.pass(1);
        CHECK.due("stands(0), of those that have not FALLEN", x.stands(0), 6);
        CHECK.due("stands(1), of those that have not FALLEN", x.stands(1), 3);
        x.pass(6);
        CHECK.due("stands(0) of what cannot FALL", x.stands(0), NONE);
        CHECK.due("stands(1) of what cannot FALL", x.stands(1), NONE);
        CHECK.due("stands(2) of what cannot FALL", x.stands(2), BAD);
        ButtressWall y = Check.laid("b10,1;f0,10,0,3;");
        CHECK.due("stands(0) by knees", y.stands(0), 6);
    }

    private static void standingForSixtyHours() {
        ButtressWall x = Check.laid("b10,19;" + LATE);
        CHECK.due("stands(0) for 60", x.stands(0), 60);
        CHECK.due("stands(1) for 60", x.stands(1), 0);
        ButtressWall y = Check.laid("b10,20;" + LATE);
        CHECK.due("stands(0) for 61", y.stands(0), NONE);
        CHECK.due("stands(1) for 61", y.stands(1), NONE);
        y.pass(1);
        CHECK.due("stands(0) for 60 then", y.stands(0), 60);
    }

    private static void needed() {
        ButtressWall x = Check.laid("b10,0;b10,0;f0,10,1,30;f0,9,1,30;f0,30,0,30;d2;");
        CHECK.due("needed of fewest", x.needed(), 4);
        ButtressWall y = Check.laid("b10,0;b10,0;f0,5,0,30;f0,30,1,30;f0,30,0,30;");
        CHECK.due("needed, the lowest", y.needed(), 2);
        CHECK.due("needed, one for two", Check.laid("b10,0;f0,5,0,30;f0,5,0,30;f0,10,0,30;").needed(), 4);
        CHECK.due("needed by none", Check.laid("b0,0;b10,12;f0,1,0,1;").needed(), 0);
        CHECK.due("needed without any", Check.laid("b10,12;").needed(), 0);
        CHECK.due("needed, but too weak", Check.laid("b10,11;f0,9,0,30;").needed(), NONE);
        CHECK.due("needed, but none", Check.laid("b10,11;").needed(), NONE);
        CHECK.due("all needed", Check.laid("b30,0;f0,10,0,30;f0,10,0,30;f0,10,0,30;d0;d1;d2;").needed(), 7);
    }

    private static void neededWithinTwelveHours() {
        CHECK.due("DOWN behind 12", Check.laid("b10,0;f0,10,0,11;").needed(), 1);
        CHECK.due("DOWN behind 11", Check.laid("b10,0;f0,10,0,10;").needed(), NONE);
        ButtressWall x = Check.laid("b10,12;f0,10,0,1;");
        x.pass(2);
        CHECK.due("TIRED", x.buttress(0, 4), 2);
        CHECK.due("needed of none as yet", x.needed(), 0);
        x.pass(1);
        CHECK.due("needed, however TIRED", x.needed(), 1);
        ButtressWall y = Check.laid("b10,12;f3,10,0,30;c1;d0;");
        y.pass(1);
        CHECK.due("needed, whatever CARTS", y.needed(), 1);
    }

    private static void neededWhereOneHasFallen() {
        ButtressWall x = Check.laid("b20,0;b10,12;f0,99,0,30;f0,20,1,30;d0;d1;");
        CHECK.due("needed at first", x.needed(), 1);
        x.pass(1);
        CHECK.due("FALLEN", x.bay(0, 6), 1);
        CHECK.due("needed beside it", x.needed(), 2);
        x.pass(12);
        CHECK.due("all FALLEN", x.count(5), 2);
        CHECK.due("needed of nothing left", x.needed(), 0);
    }

    private static void cuts() {
        CHECK.due("cuts, two", Check.laid("b10,0;f0,10,0,30;f0,10,0,30;").cuts(), 3);
        CHECK.due("cuts, the lowest", Check.laid("b10,0;b10,0;f0,1,0,30;f0,10,0,30;f0,10,1,30;").cuts(), 2);
        CHECK.due("cuts, not of those DOWN", Check.laid("b10,0;f0,10,0,30;f0,10,0,30;d0;").cuts(), 2);
        CHECK.due("cuts, fewest", Check.laid("b9,0;b9,0;f0,9,0,30;f0,9,0,30;f0,9,1,30;").cuts(), 4);
        CHECK.due("cuts of none", Check.laid("b0,0;f0,1,0,30;").cuts(), NONE);
        CHECK.due("cuts, FALLS as it is", Check.laid("b10,3;f0,9,0,30;").cuts(), 0);
        CHECK.due("cuts by CARTS", Check.laid("b10,0;f3,10,0,30;c1;").cuts(), 1);
        ButtressWall x = Check.laid("b10,0;b0,0;f0,9,1,30;");
        x.pass(1);
        CHECK.due("cuts beside the FALLEN", x.cuts(), 1);
        x.down(0);
        x.pass(1);
        CHECK.due("cuts of nothing left", x.cuts(), NONE);
    }

    private static void cutsWithinADay() {
        CHECK.due("FALLS behind 24", Check.laid("b10,0;f0,10,0,22;f0,10,0,22;").cuts(), 0);
        CHECK.due("FALLS behind 25", Check.laid("b10,0;f0,10,0,23;f0,10,0,23;").cuts(), 3);
        CHECK.due("FALLS behind 21, unheld", Check.laid("b10,20;f0,10,0,30;").cuts(), 1);
    }

    private static void roster(String text, int n, String hours) {
        ButtressWall x = Check.laid(text);
        StringBuilder got = new StringBuilder();
        got.append(x.roster(n, -1));
        for (int f = 0; f < x.count(1); f++) {
            got.append(' ').append(x.roster(n, f));
        }
        CHECK.same("roster of " + n + " for " + text, got.toString(), hours);
    }

    private static void rostersByTurns() {
        String two = "b10,0;f0,10,0,30;f0,10,0,30;";
        roster(two, 1, "-4 -4 -4");
        roster(two, 2, "1 0 1");
        roster(two, 5, "1 0 1");
        roster(two + "d0;", 5, "-4 -4 -4");
        roster("b10,1;f0,10,0,30;f0,10,0,30;d0;", 5, "1 -4 0");
        String five = "f0,10,0,30;".repeat(5);
        roster("b40,0;" + five, 5, "1 0 1 2 3 4");
        roster("b40,0;" + five, 4, "-4 -4 -4 -4 -4 -4");
        roster("b30,0;" + five, 4, "1 0 0 1 1 2");
        roster("b50,0;" + five + "f0,10,0,30;", 5, "-4 -4 -4 -4 -4 -4 -4");
        roster("b40,0;" + five + "f0,10,0,30;", 5, "1 0 0 1 1 2 2");
        roster("b40,1;" + five, 1, "1 0 0 0 0 0");
        roster("b40,1;" + five, 2, "1 0 0 0 0 0");
        roster("b10,0;b10,0;f0,20,0,30;f0,30,1,30;f0,10,0,30;", 2, "1 0 1 0");
        roster("b10,0;b10,0;f0,20,0,30;f0,10,1,30;f0,20,1,30;", 3, "1 0 1 2");
        roster("b10,3;", 3, "1");
        roster("b10,3;", 4, "-4");
        roster("b10,3;f0,1,0,9;d0;", 3, "1 -4");
    }

    private static void rostersByKneesAndCarts() {
        String three = "f0,10,0,1;f0,10,0,1;f0,10,0,1;";
        roster("b10,0;" + three, 3, "1 0 0 1");
        roster("b10,0;" + three, 4, "1 0 0 1");
        roster("b10,0;" + three, 5, "1 0 0 2");
        roster("b0,0;f3,5,0,9;c1;", 1, "1 0");
        ButtressWall x = Check.laid("b10,0;f3,10,0,1;f3,10,0,1;c1;");
        x.pass(5);
        CHECK.due("the first of them comes DOWN", x.roster(2, 0), 0);
        CHECK.due("goes UP, however TIRED", x.roster(2, -1), 1);
        CHECK.due("comes DOWN, whatever CARTS", x.roster(2, 1), 1);
        CHECK.due("all at once", x.roster(1, 1), NONE);
    }

    private static void wrongRosters() {
        ButtressWall x = Check.laid("b10,0;f0,9,0,9;");
        CHECK.due("no way", x.roster(1, -1), NONE);
        for (int n : new int[] {0, 6, -1, Integer.MIN_VALUE, Integer.MAX_VALUE}) {
            CHECK.due("roster(" + n + ", 0)", x.roster(n, 0), BAD);
            CHECK.due("roster(" + n + ", -1)", x.roster(n, -1), BAD);
        }
        for (int f : new int[] {-2, 1, 6, Integer.MIN_VALUE, Integer.MAX_VALUE}) {
            CHECK.due("roster(1, " + f + ")", x.roster(1, f), BAD);
        }
    }

    private static void places() {
        CHECK.due("place, the longest", Check.laid("b10,3;b20,1;f0,20,0,30;d0;").place(0), 1);
        CHECK.due("place, the lowest", Check.laid("b10,3;b20,1;f0,10,1,30;d0;").place(0), 0);
        CHECK.due("place, none is longest", Check.laid("b0,0;b10,20;" + LATE + "d0;").place(0), 1);
        CHECK.due("place, 60 is less", Check.laid("b10,20;b10,19;f3,10,0,30;f3,10,1,30;d0;"
                + "c1;c1;c1;c0;c1;c1;c1;c1;c1;c1;c1;c1;").place(0), 0);
        ButtressWall x = Check.laid("b9,0;b20,5;f0,99,0,30;d0;");
        x.pass(1);
        CHECK.due("FALLEN", x.bay(0, 6), 1);
        CHECK.due("place beside the FALLEN", x.place(0), 1);
    }

    private static void placesOfTheTired() {
        ButtressWall x = Check.laid("b9,1;b8,5;f0,9,1,1;");
        x.pass(1);
        CHECK.due("down(0)", x.down(0), 1);
        CHECK.due("up(0)", x.up(0), NO);
        CHECK.due("place, however TIRED", x.place(0), 0);
        ButtressWall y = Check.laid("b8,5;b9,1;f3,9,0,9;c1;d0;");
        CHECK.due("place, whatever CARTS", y.place(0), 1);
    }

    private static void wrongPlaces() {
        ButtressWall x = Check.laid("b10,0;f0,9,0,9;");
        CHECK.due("place of one that is UP", x.place(0), NO);
        for (int f : new int[] {-1, 1, 6, Integer.MIN_VALUE, Integer.MAX_VALUE}) {
            CHECK.due("place(" + f + ")", x.place(f), BAD);
            CHECK.due("strong(" + f + ")", x.strong(f), BAD);
        }
        x.pass(1);
        CHECK.due("place, all FALLEN", x.place(0), NONE);
        CHECK.due("place(1), all FALLEN", x.place(1), BAD);
        CHECK.due("strong, all FALLEN", x.strong(0), 1);
    }

    private static void strong() {
        CHECK.due("strong, one BAY", Check.laid("b10,0;f0,5,0,30;").strong(0), 10);
        CHECK.due("strong, two BAYS", Check.laid("b10,0;b10,0;f0,5,0,30;").strong(0), 30);
        CHECK.due("strong, three BAYS", Check.laid("b20,3;b10,9;b9,3;f0,5,1,30;").strong(0), 50);
        CHECK.due("strong, never enough", Check.laid("b99,3;b1,3;f0,5,0,30;").strong(0), 1);
        CHECK.due("strong, all of it", Check.laid("b99,3;f0,5,0,30;").strong(0), 99);
        CHECK.due("strong, not at all", Check.laid("b0,3;f0,50,0,30;").strong(0), 1);
        CHECK.due("strong, DOWN", Check.laid("b10,0;f0,5,0,30;d0;").strong(0), 1);
        CHECK.due("strong beside another", Check.laid("b10,0;f0,5,0,30;f0,7,0,30;").strong(0), 3);
        ButtressWall x = Check.laid("b10,0;b10,0;f0,5,0,30;");
        x.wipe();
        Check.write(x, "b1,1;b");
        CHECK.due("fault of another text", x.fault(), 5);
        CHECK.due("strong behind it", x.strong(0), 30);
        CHECK.due("strong of no other", x.strong(1), BAD);
        CHECK.due("STRENGTH stays", x.buttress(0, 1), 5);
    }

    private static void nothingIsChanged() {
        ButtressWall x = Check.laid("b10,1;b10,2;b5,3;f0,30,0,9;f1,20,1,8;f2,9,2,7;f3,9,1,6;c0;c1;d3;");
        x.pass(1);
        x.keep();
        String ahead = told(x);
        x.stands(0);
        x.needed();
        x.cuts();
        x.roster(5, 0);
        x.place(3);
        x.strong(0);
        x.who(7, 0);
        x.knees(0, 40);
        x.shirkers(5, 0);
        x.night(77, 60, 0);
        CHECK.same("behind questions", told(x), ahead);
    }

    private static String told(ButtressWall x) {
        StringBuilder all = new StringBuilder();
        for (int what = 0; what <= 8; what++) {
            all.append(x.count(what)).append(' ').append(Check.bays(x, what)).append(' ')
                    .append(Check.buttresses(x, what)).append(';');
        }
        return all.toString();
    }
}
