/** Promise 17, roster: all that are UP come DOWN ahead of one of 1 to 5 HOURS, the first way by which nothing falls. */
public final class Promise17Roster {
    private static final int NONE = Bounds.NONE;
    private static final String TWO = "f0,10,0,30;f0,10,0,30;", FIVE = "f0,10,0,30;".repeat(5);

    public static void main(String[] args) {
        Bounds.tryAll(Promise17Roster.class);
    }

    /** The answer for -1, then for each BUTTRESS. */
    private static String rosterOf(ButtressWall x, int n) {
        StringBuilder hours = new StringBuilder().append(x.roster(n, -1));
        for (int f = 0; f < x.count(1); f++) {
            hours.append(' ').append(x.roster(n, f));
        }
        return hours.toString();
    }

    private static void roster(Bounds due, String text, int n, String hours) {
        due.same(n + " for " + text, rosterOf(Check.laid(text), n), hours);
    }

    static void oneHourIsTheLeast(Bounds due) {
        roster(due, "b10,1;" + TWO, 1, "1 0 0");
        due.refused("roster(0, 1)", Told::lived, x -> x.roster(0, 1), Bounds.BAD);
        due.refused("roster(0, -1)", Told::lived, x -> x.roster(0, -1), Bounds.BAD);
        due.refused("roster(-1, -1)", Told::lived, x -> x.roster(-1, -1), Bounds.BAD);
    }

    static void fiveHoursAreTheMost(Bounds due) {
        roster(due, "b40,0;" + FIVE, 5, "1 0 1 2 3 4");
        due.refused("roster(6, 1)", Told::lived, x -> x.roster(6, 1), Bounds.BAD);
        due.refused("roster(6, -1)", Told::lived, x -> x.roster(6, -1), Bounds.BAD);
    }

    static void anyWayIsAskedForByMinus1(Bounds due) {
        due.is("roster(2, -1)", Check.laid("b10,0;" + TWO).roster(2, -1), 1);
        due.is("roster(1, -1)", Check.laid("b10,0;" + TWO).roster(1, -1), NONE);
        due.refused("roster(1, -2)", Told::lived, x -> x.roster(1, -2), Bounds.BAD);
    }

    static void theLastButtressIsOneLessThanThereAre(Bounds due) {
        due.is("roster(1, 5)", new ButtressWall().roster(1, 5), 0);
        due.refused("roster(1, 6)", ButtressWall::new, x -> x.roster(1, 6), Bounds.BAD);
        due.refused("roster(1, 4)", Told::lived, x -> x.roster(1, 4), Bounds.BAD);
        due.is("roster(1, 0) without any", Check.laid("b0,0;").roster(1, 0), Bounds.BAD);
    }

    static void numbersFarOutsideAreBad(Bounds due) {
        for (int far : Bounds.FAR) {
            due.is("roster(" + far + ", 0)", Told.lived().roster(far, 0), Bounds.BAD);
            due.is("roster(1, " + far + ")", Told.lived().roster(1, far), Bounds.BAD);
        }
    }

    static void badComesAheadOfNone(Bounds due) {
        due.is("no way", Check.laid("b10,0;f0,9,0,9;").roster(1, 1), Bounds.BAD);
        due.is("no way, hours", Check.laid("b10,0;f0,9,0,9;").roster(6, 0), Bounds.BAD);
        due.is("DOWN, hours", Check.laid("b0,0;f0,9,0,9;d0;").roster(6, 0), Bounds.BAD);
    }

    static void oneThatIsDownHasNone(Bounds due) {
        roster(due, "b10,1;" + TWO + "d0;", 5, "1 -4 0");
        roster(due, "b0,0;f0,9,0,9;d0;", 5, "1 -4");
    }

    static void oneThatIsDownDoesNotGoUp(Bounds due) {
        roster(due, "b10,0;" + TWO + "d0;", 5, "-4 -4 -4");
    }

    static void noWayIsNoneForAll(Bounds due) {
        roster(due, "b10,0;" + TWO, 1, "-4 -4 -4");
        roster(due, "b20,0;" + TWO, 5, "-4 -4 -4");
        roster(due, "b40,0;" + FIVE, 4, "-4 -4 -4 -4 -4 -4");
    }

    static void whereNobodyIsUpThereIsTheWayOfNone(Bounds due) {
        roster(due, "b10,5;", 5, "1");
        roster(due, "b10,4;", 5, "-4");
        roster(due, "b10,4;", 4, "1");
        roster(due, "b10,0;", 1, "-4");
        roster(due, "b10,1;", 1, "1");
        roster(due, "b10,5;f0,9,0,9;d0;", 5, "1 -4");
    }

    static void whatFallsBehindTheseHoursIsNoMatter(Bounds due) {
        roster(due, "b10,0;f0,10,0,2;f0,10,0,2;", 2, "1 0 1");
        roster(due, "b10,0;f0,10,0,1;f0,10,0,1;f0,10,0,1;f0,10,0,1;", 2, "1 0 0 0 1");
        roster(due, "b10,2;b0,0;f0,9,1,30;", 2, "1 0");
        roster(due, "b10,2;b0,0;f0,9,1,30;", 3, "-4 -4");
    }

    static void theLastHourIsOneOfThem(Bounds due) {
        roster(due, "b10,0;b10,0;f0,20,0,30;f0,10,1,30;f0,20,1,30;", 3, "1 0 1 2");
        roster(due, "b10,1;f0,10,0,30;", 5, "1 0");
        roster(due, "b20,0;" + "f0,10,0,30;".repeat(3), 3, "1 0 1 2");
        roster(due, "b20,0;" + "f0,10,0,30;".repeat(3), 2, "-4 -4 -4 -4");
    }

    static void eachGoesUpAheadOfTheNextHour(Bounds due) {
        roster(due, "b10,1;f0,10,0,30;", 2, "1 0");
        roster(due, "b10,0;" + TWO, 2, "1 0 1");
        ButtressWall x = Check.laid("b10,1;f0,10,0,30;d0;");
        x.pass(1);
        x.up(0);
        due.is("unheld ahead", x.bay(0, 5), 1);
        due.same("it stays UP for an hour first", rosterOf(x, 2), "1 1");
        due.same("it cannot", rosterOf(x, 1), "-4 -4");
    }

    static void theFirstIsByTheLowestOneThenTheNext(Bounds due) {
        roster(due, "b30,0;" + FIVE, 4, "1 0 0 1 1 2");
        roster(due, "b40,0;" + FIVE + "f0,10,0,30;", 5, "1 0 0 1 1 2 2");
        roster(due, "b40,0;" + FIVE + "f0,10,0,30;", 3, "1 0 0 1 1 2 2");
        roster(due, "b50,0;" + FIVE + "f0,10,0,30;", 5, "-4 -4 -4 -4 -4 -4 -4");
        roster(due, "b10,0;b10,0;f0,20,0,30;f0,30,1,30;f0,10,0,30;", 2, "1 0 1 0");
    }

    static void itIsTheEarliestHourForTheLowestWhateverTheOthers(Bounds due) {
        roster(due, "b20,0;f0,10,0,30;f0,10,0,30;f0,20,0,30;", 2, "1 0 0 1");
        roster(due, "b20,0;f0,20,0,30;f0,10,0,30;f0,10,0,30;", 2, "1 0 1 1");
    }

    static void itGoesUpWhateverItsKnees(Bounds due) {
        roster(due, "b10,0;f0,10,0,1;f0,10,0,1;f0,10,0,1;", 3, "1 0 0 1");
        roster(due, "b10,0;f0,10,0,1;f0,10,0,1;f0,10,0,1;", 5, "1 0 0 2");
        ButtressWall x = Check.laid("b10,0;f3,10,0,1;f3,10,0,1;c1;");
        x.pass(5);
        due.same("TIRED", Check.buttresses(x, 4), "5 5");
        due.same("however TIRED", rosterOf(x, 2), "1 0 1");
    }

    /** Within five its knees give way behind the first hour: DOWN already, it goes UP in its turn all the same. */
    static void oneThatCameDownByItsKneesGoesUpInItsTurn(Bounds due) {
        ButtressWall x = Check.laid("b10,1;f0,10,0,1;");
        x.pass(1);
        due.same("within four", rosterOf(x, 4), "1 0");
        due.same("within five", rosterOf(x, 5), "1 1");
    }

    static void cartsAreNoMatter(Bounds due) {
        roster(due, "b0,0;f3,5,0,9;c1;", 1, "1 0");
        roster(due, "b10,0;f3,10,0,30;f3,10,0,30;c1;", 2, "1 0 1");
    }

    static void whatHasFallenAheadIsNoMatter(Bounds due) {
        ButtressWall x = Check.laid("b10,0;b0,9;" + "f0,10,1,30;f0,10,1,30;");
        x.down(0);
        x.down(1);
        x.pass(1);
        due.is("FALLEN", x.count(5), 1);
        x.up(0);
        x.up(1);
        due.same("roster of 5", rosterOf(x, 5), "1 0 0");
    }

    static void whatWasAskedInAnotherHourIsNoMatter(Bounds due) {
        ButtressWall x = Check.laid("b10,3;");
        x.pass(2);
        due.is("roster(1, -1), unheld for 2", x.roster(1, -1), 1);
        x.undo();
        due.is("roster(3, -1), unheld for none", x.roster(3, -1), 1);
        x.pass(2);
        due.is("roster(2, -1), unheld for 2", x.roster(2, -1), NONE);
        x.undo();
        due.is("roster(4, -1), unheld for none", x.roster(4, -1), NONE);
        due.is("roster(3, -1) once more", x.roster(3, -1), 1);
    }

    static void askingChangesNothing(Bounds due) {
        due.changesNothing("roster(5, -1)", Told::lived, x -> x.roster(5, -1));
        due.changesNothing("roster(3, 1)", Told::livedLong, x -> x.roster(3, 1));
    }
}
