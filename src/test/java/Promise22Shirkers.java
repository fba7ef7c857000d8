/** Promise 22, shirkers: the chance, in lowest terms, that nothing falls within 12 HOURS, each shirking by x of ten. */
public final class Promise22Shirkers {
    private static final String TWO = "f0,10,0,30;f0,10,0,30;";

    public static void main(String[] args) {
        Bounds.tryAll(Promise22Shirkers.class);
    }

    private static void chance(Bounds due, ButtressWall wall, int x, int above, int below) {
        due.is("shirkers(" + x + ", 0)", wall.shirkers(x, 0), above);
        due.is("shirkers(" + x + ", 1)", wall.shirkers(x, 1), below);
    }

    private static void chance(Bounds due, String text, int x, int above, int below) {
        chance(due, Check.laid(text), x, above, below);
    }

    static void zeroOfTenIsTheLeast(Bounds due) {
        chance(due, "b10,0;" + TWO, 0, 1, 1);
        chance(due, "b20,0;" + TWO, 0, 1, 1);
        chance(due, "b21,0;" + TWO, 0, 0, 1);
        due.refused("shirkers(-1, 0)", Told::lived, x -> x.shirkers(-1, 0), Bounds.BAD);
        due.refused("shirkers(-1, 1)", Told::lived, x -> x.shirkers(-1, 1), Bounds.BAD);
    }

    static void tenOfTenIsTheMost(Bounds due) {
        chance(due, "b10,0;" + TWO, 10, 0, 1);
        chance(due, "b10,1;" + TWO, 10, 1, 1);
        chance(due, "b0,0;" + TWO, 10, 1, 1);
        due.refused("shirkers(11, 0)", Told::lived, x -> x.shirkers(11, 0), Bounds.BAD);
        due.refused("shirkers(11, 1)", Told::lived, x -> x.shirkers(11, 1), Bounds.BAD);
    }

    static void partIs0Or1(Bounds due) {
        due.refused("shirkers(5, -1)", Told::lived, x -> x.shirkers(5, -1), Bounds.BAD);
        due.refused("shirkers(5, 2)", Told::lived, x -> x.shirkers(5, 2), Bounds.BAD);
    }

    static void numbersFarOutsideAreBad(Bounds due) {
        for (int far : Bounds.FAR) {
            due.is("shirkers(" + far + ", 0)", Told.lived().shirkers(far, 0), Bounds.BAD);
            due.is("shirkers(5, " + far + ")", Told.lived().shirkers(5, far), Bounds.BAD);
        }
    }

    static void hours12AreTheirs(Bounds due) {
        chance(due, "b10,11;", 5, 0, 1);
        chance(due, "b10,12;", 5, 1, 1);
        chance(due, "b10,0;f0,10,0,10;", 0, 0, 1);
        chance(due, "b10,0;f0,10,0,11;", 0, 1, 1);
    }

    /** One that shirks is TIRED by an hour less. */
    static void hours12AreThoseOfShirkersToo(Bounds due) {
        chance(due, "b10,1;f0,10,0,9;", 10, 1, 1);
        chance(due, "b10,1;f0,10,0,8;", 10, 0, 1);
        chance(due, "b10,1;f0,10,0,9;", 5, 1, 2);
    }

    static void whereNobodyIsUpItIsSureOrNot(Bounds due) {
        chance(due, "b0,0;", 5, 1, 1);
        chance(due, "b10,0;", 5, 0, 1);
        chance(due, "b10,0;f0,10,0,30;d0;", 5, 0, 1);
        chance(due, "b10,12;f0,10,0,30;d0;", 5, 1, 1);
    }

    static void noChanceIs0Of1(Bounds due) {
        chance(due, "b99,0;" + TWO, 5, 0, 1);
    }

    static void aSureChanceIs1Of1(Bounds due) {
        chance(due, "b0,0;" + TWO, 5, 1, 1);
        chance(due, "b0,0;" + TWO + TWO + TWO, 7, 1, 1);
    }

    static void itIsInLowestTerms(Bounds due) {
        int[] above = {1, 9, 4, 7, 3, 1, 2, 3, 1, 1, 0};
        int[] below = {1, 10, 5, 10, 5, 2, 5, 10, 5, 10, 1};
        for (int x = 0; x <= 10; x++) {
            chance(due, "b10,0;f0,10,0,30;", x, above[x], below[x]);
        }
        chance(due, "b10,0;" + TWO, 5, 3, 4);
        chance(due, "b10,0;" + TWO, 2, 24, 25);
        chance(due, "b20,0;" + TWO, 2, 16, 25);
    }

    static void sixShirkByAMillion(Bounds due) {
        chance(due, "b10,0;" + TWO + TWO + TWO, 1, 999999, 1000000);
        chance(due, "b60,0;" + TWO + TWO + TWO, 9, 1, 1000000);
        chance(due, "b60,0;" + TWO + TWO + TWO, 1, 531441, 1000000);
        chance(due, "b60,0;" + TWO + TWO + TWO, 5, 1, 64);
    }

    static void thoseThatAreDownDoNotShirk(Bounds due) {
        chance(due, "b10,0;" + TWO + "d0;", 3, 7, 10);
        chance(due, "b10,0;" + TWO, 3, 91, 100);
    }

    static void theyShirkInTheNextHourAlone(Bounds due) {
        chance(due, "b10,1;f0,10,0,30;", 10, 1, 1);
        chance(due, "b10,0;f0,10,0,30;", 10, 0, 1);
    }

    static void aShyOneShirksInAnHourWithCarts(Bounds due) {
        chance(due, "b10,0;f3,10,0,30;c1;", 10, 0, 1);
        chance(due, "b10,0;f3,10,0,30;c1;", 3, 7, 10);
    }

    static void theyGoUpWhateverKneesAndCarts(Bounds due) {
        ButtressWall x = Check.laid("b10,1;f3,10,0,1;c1;");
        x.pass(6);
        chance(due, x, 10, 1, 1);
    }

    static void whatHasFallenAheadIsNoMatter(Bounds due) {
        ButtressWall x = Check.laid("b10,0;b9,12;f0,10,0,30;f0,14,1,30;");
        x.down(0);
        x.pass(1);
        due.is("FALLEN", x.count(5), 1);
        chance(due, x, 5, 1, 1);
    }

    static void askingChangesNothing(Bounds due) {
        due.changesNothing("shirkers(5, 0)", Told::lived, x -> x.shirkers(5, 0));
        due.changesNothing("shirkers(3, 1)", Told::livedLong, x -> x.shirkers(3, 1));
    }
}
