/** Promise 12, send: one that is DOWN is SENT to a BAY, whichever there is. */
public final class Promise12Send {
    public static void main(String[] args) {
        Bounds.tryAll(Promise12Send.class);
    }

    static void theFirstButtressIs0(Bounds due) {
        due.is("send(0, 0)", Told.lived().send(0, 0), 1);
        due.refused("send(-1, 0)", Told::lived, x -> x.send(-1, 0), Bounds.BAD);
    }

    static void theLastButtressIsOneLessThanThereAre(Bounds due) {
        ButtressWall x = Check.laid("b0,0;b0,0;f0,1,0,9;f0,1,0,9;f0,1,0,9;f0,1,0,9;f0,1,0,9;f0,1,0,9;d5;");
        due.is("send(6, 1)", x.send(6, 1), Bounds.BAD);
        due.is("send(5, 1)", x.send(5, 1), 0);
        due.refused("send(4, 0)", Told::livedLong, y -> y.send(4, 0), Bounds.BAD);
    }

    static void theFirstBayIs0(Bounds due) {
        due.is("send(2, 0)", Told.lived().send(2, 0), 2);
        due.refused("send(0, -1)", Told::lived, x -> x.send(0, -1), Bounds.BAD);
    }

    static void theLastBayIsOneLessThanThereAre(Bounds due) {
        due.is("send(0, 2)", Told.lived().send(0, 2), 1);
        due.refused("send(0, 3)", Told::lived, x -> x.send(0, 3), Bounds.BAD);
        ButtressWall x = Check.laid("b0,0;b0,0;b0,0;b0,0;b0,0;b0,0;b0,0;b0,0;f0,1,0,9;d0;");
        due.is("send(0, 8) of eight", x.send(0, 8), Bounds.BAD);
        due.is("send(0, 7) of eight", x.send(0, 7), 0);
        due.is("send(0, 0) back", x.send(0, 0), 7);
    }

    static void whereThereIsNoneItIsBad(Bounds due) {
        due.refused("send(0, 0)", () -> Check.laid("b0,0;"), x -> x.send(0, 0), Bounds.BAD);
    }

    static void numbersFarOutsideAreBad(Bounds due) {
        for (int far : Bounds.FAR) {
            due.refused("send(" + far + ", 0)", Told::lived, x -> x.send(far, 0), Bounds.BAD);
            due.refused("send(0, " + far + ")", Told::lived, x -> x.send(0, far), Bounds.BAD);
        }
    }

    static void oneThatIsUpIsRefused(Bounds due) {
        due.refused("send(1, 0)", Told::lived, x -> x.send(1, 0), Bounds.NO);
        due.refused("send(3, 1), where it is", Told::lived, x -> x.send(3, 1), Bounds.NO);
        due.refused("send(3, 0)", Told::livedLong, x -> x.send(3, 0), Bounds.NO);
    }

    static void badComesAheadOfNo(Bounds due) {
        due.refused("send(1, 3), UP", Told::lived, x -> x.send(1, 3), Bounds.BAD);
        due.refused("send(1, -1), UP", Told::lived, x -> x.send(1, -1), Bounds.BAD);
    }

    static void itIsSentWhereItIsAlready(Bounds due) {
        ButtressWall x = Told.lived();
        due.is("send(0, 1)", x.send(0, 1), 1);
        due.is("UNDONE", x.count(6), 4);
    }

    static void itIsSentToAFallenBayAndAway(Bounds due) {
        ButtressWall x = Told.lived();
        due.is("FALLEN", x.bay(2, 6), 1);
        due.is("send(0, 2)", x.send(0, 2), 1);
        due.is("up(0) there", x.up(0), Bounds.NO);
        due.is("send(0, 0)", x.send(0, 0), 2);
        due.is("up(0) away", x.up(0), 1);
    }

    static void cartsAreNoMatter(Bounds due) {
        due.is("SHY", Check.laid("b0,0;b0,0;f3,1,0,9;c1;d0;").send(0, 1), 0);
        due.is("PLAIN", Check.laid("b0,0;b0,0;f0,1,0,9;c1;d0;").send(0, 1), 0);
    }

    static void itIsNoMatterHowTiredItIs(Bounds due) {
        ButtressWall x = Check.laid("b0,0;b0,0;f0,1,0,1;");
        x.pass(2);
        due.is("TIRED 2 by 1", x.send(0, 1), 0);
    }

    static void itIsThereThenAndNothingElse(Bounds due) {
        ButtressWall x = Check.laid("b9,5;b0,0;f0,9,0,9;f0,1,0,9;");
        x.pass(3);
        x.down(0);
        x.send(0, 1);
        due.same("all", Told.brief(x), "3: 0 0 | 0 0 | 1 0 | 3 3 | 0 1");
    }
}
