/** Promise 1, a new object: as told, with nothing written, UNDONE or KEPT yet. */
public final class Promise01NewObject {
    private static final String FIRST = "b20,3;b35,2;b40,2;b30,4;b15,6;f0,25,1,10;f1,15,0,6;f2,30,2,8;f3,20,3,12;"
            + "f0,18,4,9;f2,22,1,7;c0;c0;c1;c0;d4;";

    public static void main(String[] args) {
        Bounds.tryAll(Promise01NewObject.class);
    }

    static void theTextThatIsToldIsLaid(Bounds due) {
        due.same("all", Told.wall(new ButtressWall()), Told.wall(Check.laid(FIRST)));
        ButtressWall x = new ButtressWall();
        due.is("BAYS", x.count(0), 5);
        due.same("THRUST", Check.bays(x, 0), "20 35 40 30 15");
        due.same("H", Check.bays(x, 1), "3 2 2 4 6");
        due.is("BUTTRESSES", x.count(1), 6);
        due.same("KIND", Check.buttresses(x, 0), "0 1 2 3 0 2");
        due.same("STRENGTH", Check.buttresses(x, 1), "25 15 30 20 18 22");
        due.same("BAY", Check.buttresses(x, 2), "1 0 2 3 4 1");
        due.same("L", Check.buttresses(x, 3), "10 6 8 12 9 7");
    }

    static void onlyTheLastToldDownIsDown(Bounds due) {
        due.same("UP", Check.buttresses(new ButtressWall(), 5), "1 1 1 1 0 1");
    }

    static void theTextIsEmpty(Bounds due) {
        due.is("letters", new ButtressWall().count(8), 0);
        due.is("wipe()", new ButtressWall().wipe(), 0);
        due.is("fault()", new ButtressWall().fault(), Bounds.NONE);
        due.is("write('b')", new ButtressWall().write('b'), 1);
    }

    static void theEmptyTextIsNotLaid(Bounds due) {
        due.refused("lay()", ButtressWall::new, x -> x.lay(), Bounds.NO);
    }

    static void nothingCanBeUndone(Bounds due) {
        due.is("count(6)", new ButtressWall().count(6), 0);
        due.refused("undo()", ButtressWall::new, x -> x.undo(), Bounds.NO);
    }

    static void nothingIsKept(Bounds due) {
        due.is("count(7)", new ButtressWall().count(7), 0);
        due.refused("back()", ButtressWall::new, x -> x.back(), Bounds.NO);
    }

    static void noHourHasGoneBy(Bounds due) {
        ButtressWall x = new ButtressWall();
        due.is("hours", x.count(2), 0);
        due.same("TIRED", Check.buttresses(x, 4), "0 0 0 0 0 0");
        due.same("unheld", Check.bays(x, 5), "0 0 0 0 0");
        due.same("FALLEN", Check.bays(x, 6), "0 0 0 0 0");
    }

    static void cartsBeginAtTheFirstHour(Bounds due) {
        ButtressWall x = new ButtressWall();
        int[] carts = {0, 0, 1, 0, 0, 0, 1, 0};
        for (int n = 0; n < carts.length; n++) {
            due.is("carts(" + n + ")", x.carts(n), carts[n]);
        }
    }

    static void oneObjectHasNothingOfAnother(Bounds due) {
        String ahead = Told.whole(new ButtressWall());
        ButtressWall first = new ButtressWall();
        Told.livedLong();
        ButtressWall second = new ButtressWall();
        second.pass(9);
        second.keep();
        Check.write(second, "b1,1;");
        second.lay();
        due.same("one made ahead", Told.whole(first), ahead);
        due.same("one made behind", Told.whole(new ButtressWall()), ahead);
        due.is("undo() of one made ahead", first.undo(), Bounds.NO);
        due.is("back() of one made ahead", first.back(), Bounds.NO);
    }
}
