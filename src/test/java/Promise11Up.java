/** Promise 11, up: one that is DOWN goes UP, less TIRED than L, at a BAY that stands, a SHY one not with CARTS. */
public final class Promise11Up {
    public static void main(String[] args) {
        Bounds.tryAll(Promise11Up.class);
    }

    static void theFirstButtressIs0(Bounds due) {
        due.is("up(0)", Check.laid("b0,0;f0,1,0,9;d0;").up(0), 1);
        due.refused("up(-1)", Told::lived, x -> x.up(-1), Bounds.BAD);
    }

    static void theLastButtressIsOneLessThanThereAre(Bounds due) {
        ButtressWall x = Check.laid("b0,0;f0,1,0,9;f0,1,0,9;f0,1,0,9;f0,1,0,9;f0,1,0,9;f0,1,0,9;d5;");
        due.is("up(6)", x.up(6), Bounds.BAD);
        due.is("up(5)", x.up(5), 6);
        due.refused("up(4)", Told::livedLong, y -> y.up(4), Bounds.BAD);
    }

    static void whereThereIsNoneItIsBad(Bounds due) {
        due.refused("up(0)", () -> Check.laid("b0,0;"), x -> x.up(0), Bounds.BAD);
    }

    static void numbersFarOutsideAreBad(Bounds due) {
        for (int far : Bounds.FAR) {
            due.refused("up(" + far + ")", Told::lived, x -> x.up(far), Bounds.BAD);
        }
    }

    static void oneThatIsUpIsRefused(Bounds due) {
        due.refused("up(3)", Told::lived, x -> x.up(3), Bounds.NO);
        due.refused("up(3)", Told::livedLong, x -> x.up(3), Bounds.NO);
    }

    static void oneAtAFallenBayIsRefused(Bounds due) {
        due.refused("up(2)", Told::lived, x -> x.up(2), Bounds.NO);
        due.refused("up(0), SENT there", Told::livedLong, x -> x.up(0), Bounds.NO);
        ButtressWall x = Told.lived();
        x.send(2, 1);
        due.is("SENT away from there", x.up(2), 3);
    }

    private static ButtressWall tiredBy(int tired, int bears) {
        ButtressWall x = Check.laid("b0,0;f0,1,0," + bears + ";");
        for (int i = 0; i < tired; i++) {
            x.pass(1);
        }
        x.down(0);
        return x;
    }

    static void asTiredAsLIsRefused(Bounds due) {
        due.is("0 by 1", tiredBy(0, 1).up(0), 1);
        due.is("1 by 1", tiredBy(1, 1).up(0), Bounds.NO);
        due.refused("9 by 9", () -> tiredBy(9, 9), x -> x.up(0), Bounds.NO);
        due.is("8 by 9", tiredBy(8, 9).up(0), 1);
        due.is("30 by 30", tiredBy(30, 30).up(0), Bounds.NO);
        due.is("29 by 30", tiredBy(29, 30).up(0), 1);
    }

    static void moreTiredThanLIsRefused(Bounds due) {
        ButtressWall x = Check.laid("b0,0;f0,1,0,9;");
        x.pass(10);
        due.is("DOWN by its knees", x.buttress(0, 5), 0);
        due.is("TIRED 10", x.up(0), Bounds.NO);
        x.pass(1);
        due.is("TIRED 8", x.up(0), 1);
    }

    static void aShyOneIsRefusedInAnHourWithCarts(Bounds due) {
        due.refused("CARTS", () -> Check.laid("b0,0;f3,1,0,9;c1;d0;"), x -> x.up(0), Bounds.NO);
        due.is("none", Check.laid("b0,0;f3,1,0,9;c0;c1;d0;").up(0), 1);
        ButtressWall x = Check.laid("b0,0;f3,1,0,9;c1;c0;d0;");
        x.pass(1);
        due.is("none in hour 1", x.up(0), 1);
    }

    static void othersGoUpInAnHourWithCarts(Bounds due) {
        for (int kind = 0; kind <= 2; kind++) {
            due.is("KIND " + kind, Check.laid("b0,0;f" + kind + ",1,0,9;c1;d0;").up(0), 1);
        }
    }

    static void thoseUpAtItsBayAloneAreCounted(Bounds due) {
        ButtressWall x = Check.laid("b0,0;b0,0;b0,0;f0,1,1,9;f0,1,0,9;f0,1,2,9;f0,1,1,9;f0,1,1,9;d0;d3;d4;");
        due.is("others next to it and DOWN", x.up(0), 1);
        due.is("the second of them", x.up(3), 2);
        x.down(0);
        due.is("one is DOWN", x.up(4), 2);
        due.is("all of them", x.up(0), 3);
    }

    static void itIsUpThenAndNothingElse(Bounds due) {
        ButtressWall x = Check.laid("b9,5;b0,0;f0,9,0,9;f0,1,0,9;d0;");
        x.pass(2);
        x.up(0);
        due.same("all", Told.brief(x), "2: 2 0 | 0 0 | 0 0 | 0 2 | 1 1");
        due.is("HELD", x.bay(0, 4), 1);
        due.is("UNDONE", x.count(6), 2);
    }
}
