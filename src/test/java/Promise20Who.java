/** Promise 20, who: sets by which just these BAYS would be HELD now: how many, the lowest. */
public final class Promise20Who {
    private static final String EIGHT = "b0,0;b0,0;b0,0;b0,0;b0,0;b0,0;b0,0;b0,0;";

    public static void main(String[] args) {
        Bounds.tryAll(Promise20Who.class);
    }

    private static void who(Bounds due, ButtressWall x, int bays, int sets, int lowest) {
        due.is("who(" + bays + ", 0)", x.who(bays, 0), sets);
        due.is("who(" + bays + ", 1)", x.who(bays, 1), lowest);
    }

    static void noBitsAreTheLeast(Bounds due) {
        who(due, Check.laid("b1,0;f0,1,0,9;"), 0, 1, 0);
        due.refused("who(-1, 0)", Told::lived, x -> x.who(-1, 0), Bounds.BAD);
        due.refused("who(-1, 1)", Told::lived, x -> x.who(-1, 1), Bounds.BAD);
    }

    static void bitsOfAllBaysAreTheMost(Bounds due) {
        who(due, Check.laid("b0,0;"), 1, 1, 0);
        due.is("who(2, 0) of one", Check.laid("b0,0;").who(2, 0), Bounds.BAD);
        who(due, Check.laid(EIGHT), 255, 1, 0);
        due.is("who(256, 0) of eight", Check.laid(EIGHT).who(256, 0), Bounds.BAD);
        due.is("who(7, 0)", Told.lived().who(7, 0), 0);
        due.refused("who(8, 0)", Told::lived, x -> x.who(8, 0), Bounds.BAD);
        due.refused("who(8, 1)", Told::lived, x -> x.who(8, 1), Bounds.BAD);
    }

    static void whatIs0Or1(Bounds due) {
        due.refused("who(0, -1)", Told::lived, x -> x.who(0, -1), Bounds.BAD);
        due.refused("who(0, 2)", Told::lived, x -> x.who(0, 2), Bounds.BAD);
    }

    static void numbersFarOutsideAreBad(Bounds due) {
        for (int far : Bounds.FAR) {
            due.is("who(" + far + ", 0)", Told.lived().who(far, 0), Bounds.BAD);
            due.is("who(0, " + far + ")", Told.lived().who(0, far), Bounds.BAD);
        }
    }

    static void badComesAheadOfNone(Bounds due) {
        ButtressWall x = Check.laid("b0,0;");
        who(due, x, 0, 0, Bounds.NONE);
        due.is("who(0, 2)", x.who(0, 2), Bounds.BAD);
        due.is("who(2, 1)", x.who(2, 1), Bounds.BAD);
    }

    static void withoutAButtressThereIsTheSetOfNone(Bounds due) {
        ButtressWall x = Check.laid("b0,0;b1,0;");
        who(due, x, 1, 1, 0);
        who(due, x, 0, 0, Bounds.NONE);
        who(due, x, 2, 0, Bounds.NONE);
        who(due, x, 3, 0, Bounds.NONE);
    }

    static void all64SetsAreTried(Bounds due) {
        who(due, Check.laid("b0,0;" + "f0,1,0,9;".repeat(6)), 1, 64, 0);
        who(due, Check.laid("b6,0;" + "f0,1,0,9;".repeat(6)), 1, 1, 63);
        who(due, Check.laid("b6,0;" + "f0,1,0,9;".repeat(6)), 0, 63, 0);
        who(due, Check.laid("b7,0;" + "f0,1,0,9;".repeat(6)), 1, 0, Bounds.NONE);
    }

    static void justTheseBaysAreHeldAndNoOther(Bounds due) {
        ButtressWall x = Check.laid("b10,0;b10,0;f0,10,0,9;f0,10,1,9;f0,30,0,9;d0;");
        who(due, x, 0, 1, 0);
        who(due, x, 1, 1, 1);
        who(due, x, 2, 1, 2);
        who(due, x, 3, 5, 3);
    }

    static void theLowestIsByBitsNotByFewest(Bounds due) {
        who(due, Check.laid("b10,0;f0,5,0,9;f0,5,0,9;f0,10,0,9;"), 1, 5, 3);
    }

    static void asMuchAsLoadHolds(Bounds due) {
        who(due, Check.laid("b10,0;f0,10,0,9;"), 1, 1, 1);
        who(due, Check.laid("b10,0;f0,9,0,9;"), 1, 0, Bounds.NONE);
    }

    static void thoseThatAreDownTiredOrShyAreTaken(Bounds due) {
        ButtressWall x = Check.laid("b10,9;b0,0;f3,10,1,1;c1;");
        x.pass(3);
        due.is("TIRED", x.buttress(0, 4), 3);
        who(due, x, 2, 2, 0);
        ButtressWall y = Check.laid("b10,9;f0,10,0,1;d0;");
        who(due, y, 1, 1, 1);
    }

    static void thoseAtAFallenBayAreNone(Bounds due) {
        ButtressWall x = Check.laid("b5,0;b4,9;f0,9,0,9;f0,9,1,9;d1;d0;");
        x.pass(1);
        due.same("FALLEN", Check.bays(x, 6), "1 0");
        who(due, x, 0, 1, 0);
        who(due, x, 2, 1, 2);
    }

    static void aFallenBayIsNeverHeld(Bounds due) {
        ButtressWall x = Check.laid("b5,0;b4,9;f0,9,0,9;f0,9,1,9;d1;d0;");
        x.pass(1);
        who(due, x, 1, 0, Bounds.NONE);
        who(due, x, 3, 0, Bounds.NONE);
    }

    static void whereAllHaveFallenThereIsTheSetOfNone(Bounds due) {
        ButtressWall x = Check.laid("b5,0;f0,1,0,9;");
        x.pass(1);
        who(due, x, 0, 1, 0);
        who(due, x, 1, 0, Bounds.NONE);
    }

    static void itIsAskedOfWhereTheyWereSent(Bounds due) {
        ButtressWall x = Check.laid("b10,9;b10,9;f0,10,0,9;d0;");
        who(due, x, 1, 1, 1);
        who(due, x, 2, 0, Bounds.NONE);
        x.send(0, 1);
        who(due, x, 1, 0, Bounds.NONE);
        who(due, x, 2, 1, 1);
    }

    static void askingChangesNothing(Bounds due) {
        due.changesNothing("who(3, 0)", Told::lived, x -> x.who(3, 0));
        due.changesNothing("who(2, 1)", Told::livedLong, x -> x.who(2, 1));
    }
}
