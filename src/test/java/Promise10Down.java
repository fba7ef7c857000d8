/** Promise 10, down: one that is UP comes DOWN, a SHY one not in an hour with CARTS. */
public final class Promise10Down {
    public static void main(String[] args) {
        Bounds.tryAll(Promise10Down.class);
    }

    static void theFirstButtressIs0(Bounds due) {
        due.is("down(0)", Check.laid("b0,0;f0,1,0,9;").down(0), 0);
        due.refused("down(-1)", Told::lived, x -> x.down(-1), Bounds.BAD);
    }

    static void theLastButtressIsOneLessThanThereAre(Bounds due) {
        due.is("down(5)", new ButtressWall().down(5), 0);
        due.refused("down(6)", ButtressWall::new, x -> x.down(6), Bounds.BAD);
        due.refused("down(4)", Told::livedLong, x -> x.down(4), Bounds.BAD);
    }

    static void whereThereIsNoneItIsBad(Bounds due) {
        due.refused("down(0)", () -> Check.laid("b0,0;"), x -> x.down(0), Bounds.BAD);
    }

    static void numbersFarOutsideAreBad(Bounds due) {
        for (int far : Bounds.FAR) {
            due.refused("down(" + far + ")", Told::lived, x -> x.down(far), Bounds.BAD);
        }
    }

    static void oneThatIsDownIsRefused(Bounds due) {
        due.refused("down(0)", Told::lived, x -> x.down(0), Bounds.NO);
        due.refused("down(0)", Told::livedLong, x -> x.down(0), Bounds.NO);
        due.refused("down(2), at a FALLEN BAY", Told::lived, x -> x.down(2), Bounds.NO);
        due.refused("down(4), told DOWN", ButtressWall::new, x -> x.down(4), Bounds.NO);
    }

    static void aShyOneIsRefusedInAnHourWithCarts(Bounds due) {
        due.refused("down(1)", Told::lived, x -> x.down(1), Bounds.NO);
        due.refused("down(1)", Told::livedLong, x -> x.down(1), Bounds.NO);
    }

    static void aShyOneComesDownInAnHourWithout(Bounds due) {
        ButtressWall x = Check.laid("b0,0;f3,1,0,9;c0;c1;");
        due.is("hour 0", x.down(0), 0);
        ButtressWall y = Check.laid("b0,0;f3,1,0,9;c0;c1;");
        y.pass(1);
        due.is("hour 1", y.down(0), Bounds.NO);
        y.pass(1);
        due.is("hour 2, as hour 0", y.down(0), 2);
        due.is("without CARTS ever", Check.laid("b0,0;f3,1,0,9;").down(0), 0);
    }

    static void othersComeDownInAnHourWithCarts(Bounds due) {
        for (int kind = 0; kind <= 2; kind++) {
            due.is("KIND " + kind, Check.laid("b0,0;f" + kind + ",1,0,9;c1;").down(0), 0);
        }
    }

    static void oneMoreTiredThanLComesDown(Bounds due) {
        ButtressWall x = Check.laid("b0,0;f3,1,0,1;c1;c1;c1;c0;");
        x.pass(3);
        due.is("TIRED 3 by 1", x.down(0), 3);
    }

    static void itIsDownThenAndNothingElse(Bounds due) {
        ButtressWall x = Check.laid("b9,5;b0,0;f0,9,0,9;f0,1,0,9;");
        x.pass(2);
        due.is("down(0)", x.down(0), 2);
        due.same("all", Told.brief(x), "2: 0 0 | 0 0 | 0 0 | 2 2 | 0 1");
        due.is("HELD no more", x.bay(0, 4), 0);
        due.is("UNDONE", x.count(6), 2);
    }
}
