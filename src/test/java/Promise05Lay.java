/** Promise 5, lay: a text without fault and with a BAY is LAID, all begins anew; else nothing changes. */
public final class Promise05Lay {
    public static void main(String[] args) {
        Bounds.tryAll(Promise05Lay.class);
    }

    /** All has happened to it, and then the text is another one. */
    private static ButtressWall livedWith(String text) {
        ButtressWall x = Told.lived();
        x.wipe();
        Check.write(x, text);
        return x;
    }

    static void oneBayIsEnough(Bounds due) {
        ButtressWall x = livedWith("b0,0;");
        due.is("lay()", x.lay(), 1);
        due.is("BAYS", x.count(0), 1);
        due.is("BUTTRESSES", x.count(1), 0);
        due.is("buttress(0, 0)", x.buttress(0, 0), Bounds.BAD);
        due.is("bay(1, 0)", x.bay(1, 0), Bounds.BAD);
    }

    static void eightBaysAreTheMost(Bounds due) {
        ButtressWall x = livedWith("b0,0;b1,1;b2,2;b3,3;b4,4;b5,5;b6,6;b99,20;");
        due.is("lay()", x.lay(), 8);
        due.same("THRUST", Check.bays(x, 0), "0 1 2 3 4 5 6 99");
        due.same("H", Check.bays(x, 1), "0 1 2 3 4 5 6 20");
    }

    static void sixButtressesAreTheMost(Bounds due) {
        ButtressWall x = livedWith("b0,0;b0,0;f0,1,0,1;f1,99,1,30;f2,2,0,2;f3,3,1,3;f0,4,0,4;f1,5,1,5;d5;");
        due.is("lay()", x.lay(), 2);
        due.same("KIND", Check.buttresses(x, 0), "0 1 2 3 0 1");
        due.same("STRENGTH", Check.buttresses(x, 1), "1 99 2 3 4 5");
        due.same("BAY", Check.buttresses(x, 2), "0 1 0 1 0 1");
        due.same("L", Check.buttresses(x, 3), "1 30 2 3 4 5");
        due.same("UP", Check.buttresses(x, 5), "1 1 1 1 1 0");
    }

    static void anEmptyTextIsNotLaid(Bounds due) {
        due.refused("lay()", () -> livedWith(""), x -> x.lay(), Bounds.NO);
    }

    static void aTextWithoutABayIsNotLaid(Bounds due) {
        due.refused("lay()", () -> livedWith("c1;c0;"), x -> x.lay(), Bounds.NO);
    }

    static void aTextWithAFaultIsNotLaid(Bounds due) {
        for (String text : new String[] {"x", "b1,1", "xb1,1;", "b1,1;x", "b1,1;b1,21;", "b1,1;f0,1,1,1;", "b1,1;d0;",
            "b1,1;b1,1;b1,1;b1,1;b1,1;b1,1;b1,1;b1,1;b1,1;"}) {
            due.refused("lay() of " + text, () -> livedWith(text), x -> x.lay(), Bounds.NO);
        }
        due.refused("lay() with all UNDONE and KEPT", Told::livedLong, x -> x.lay(), Bounds.NO);
    }

    static void allBeginsAnew(Bounds due) {
        ButtressWall x = livedWith(Told.LIVED);
        due.is("lay()", x.lay(), 3);
        due.is("hour", x.count(2), 0);
        due.same("TIRED", Check.buttresses(x, 4), "0 0 0 0");
        due.same("unheld", Check.bays(x, 5), "0 0 0");
        due.same("FALLEN", Check.bays(x, 6), "0 0 0");
        due.same("BAY", Check.buttresses(x, 2), "0 1 2 1");
        due.same("UP", Check.buttresses(x, 5), "1 1 0 1");
        due.same("all", Told.whole(x), Told.whole(Check.laid(Told.LIVED)));
    }

    static void nothingIsUnheldAndNobodyTiredInTheLargestWall(Bounds due) {
        ButtressWall x = Check.laid("b99,20;".repeat(8) + "f0,1,0,30;".repeat(6));
        x.pass(3);
        due.same("unheld ahead", Check.bays(x, 5), "3 3 3 3 3 3 3 3");
        due.same("TIRED ahead", Check.buttresses(x, 4), "3 3 3 3 3 3");
        x.lay();
        due.same("unheld", Check.bays(x, 5), "0 0 0 0 0 0 0 0");
        due.same("TIRED", Check.buttresses(x, 4), "0 0 0 0 0 0");
    }

    static void nothingCanBeUndoneThen(Bounds due) {
        ButtressWall x = livedWith("b1,1;");
        x.lay();
        due.is("count(6)", x.count(6), 0);
        due.is("undo()", x.undo(), Bounds.NO);
        due.is("BAYS", x.count(0), 1);
    }

    static void nothingIsKeptThen(Bounds due) {
        ButtressWall x = livedWith("b1,1;");
        x.lay();
        due.is("count(7)", x.count(7), 0);
        due.is("back()", x.back(), Bounds.NO);
        due.is("keep()", x.keep(), 1);
        due.is("keep()", x.keep(), 2);
        due.is("BAYS", x.count(0), 1);
    }

    static void asManyAsBeforeCanBeUndoneLater(Bounds due) {
        ButtressWall x = Told.livedLong();
        x.wipe();
        Check.write(x, "b0,0;");
        x.lay();
        for (int i = 1; i <= 9; i++) {
            x.pass(1);
            due.is("count(6) behind " + i, x.count(6), Math.min(i, 8));
        }
        for (int left = 7; left >= 0; left--) {
            due.is("undo()", x.undo(), left);
            due.is("hours", x.count(2), left + 1);
        }
        due.is("undo() of the first", x.undo(), Bounds.NO);
    }

    static void theTextStays(Bounds due) {
        ButtressWall x = livedWith("b1,1;b2,2;");
        x.lay();
        due.is("letters", x.count(8), 10);
        due.is("lay() once more", x.lay(), 2);
        due.is("wipe()", x.wipe(), 10);
    }

    static void aFullTextIsLaid(Bounds due) {
        ButtressWall x = new ButtressWall();
        Check.write(x, "b7,1;f0,1,0,1;" + "d0;".repeat(62));
        due.is("letters", x.count(8), 200);
        due.is("lay()", x.lay(), 1);
        due.is("THRUST", x.bay(0, 0), 7);
        due.is("UP", x.buttress(0, 5), 0);
    }

    static void nothingIsLeftOfALargerWall(Bounds due) {
        ButtressWall x = Check.laid("b0,0;b9,9;b9,9;f0,1,1,9;f2,1,2,9;c1;c1;d0;d1;");
        x.pass(3);
        x.wipe();
        Check.write(x, "b0,0;f0,1,0,9;c0;");
        for (int i = 0; i < 3; i++) {
            due.is("lay()", x.lay(), 1);
            due.same("all", Told.whole(x), Told.whole(Check.laid("b0,0;f0,1,0,9;c0;")));
        }
    }

    static void withoutCartsThereAreNone(Bounds due) {
        ButtressWall x = livedWith("b0,0;");
        due.is("carts(0) ahead", x.carts(0), 1);
        x.lay();
        for (int n = 0; n < 13; n++) {
            due.is("carts(" + n + ")", x.carts(n), 0);
        }
    }

    static void oneToldDownTwiceIsDown(Bounds due) {
        due.same("UP", Check.buttresses(Check.laid("b0,0;f0,1,0,9;f0,1,0,9;d1;d1;"), 5), "1 0");
        due.same("UP", Check.buttresses(Check.laid("b0,0;f0,1,0,9;f0,1,0,9;d1;d0;d1;d1;"), 5), "0 0");
    }

    static void itemsCountInTheirOwnOrder(Bounds due) {
        ButtressWall x = Check.laid("c1;b5,1;f1,2,0,3;c0;b6,2;d0;f2,4,1,5;c1;");
        due.same("THRUST", Check.bays(x, 0), "5 6");
        due.same("KIND", Check.buttresses(x, 0), "1 2");
        due.same("UP", Check.buttresses(x, 5), "0 1");
        due.same("carts", x.carts(0) + " " + x.carts(1) + " " + x.carts(2) + " " + x.carts(3), "1 0 1 1");
    }
}
