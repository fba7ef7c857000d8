/** Promise 26, count: nine counts, from the least to the most of each. */
public final class Promise26Count {
    private static final String SIX = "f0,9,0,30;".repeat(6), EIGHT = "b9,0;".repeat(8);

    public static void main(String[] args) {
        Bounds.tryAll(Promise26Count.class);
    }

    static void whatIsFrom0To8(Bounds due) {
        due.is("count(0)", Told.lived().count(0), 3);
        due.is("count(8)", Told.lived().count(8), Told.LEFT.length());
        due.refused("count(-1)", Told::lived, x -> x.count(-1), Bounds.BAD);
        due.refused("count(9)", Told::lived, x -> x.count(9), Bounds.BAD);
        for (int far : Bounds.FAR) {
            due.is("count(" + far + ")", Told.lived().count(far), Bounds.BAD);
        }
    }

    static void eachCountIsItsOwn(Bounds due) {
        ButtressWall x = Check.laid("b9,0;b9,5;b9,9;f0,9,1,9;f1,20,2,9;f1,3,0,9;d2;");
        x.pass(1);
        x.pass(1);
        x.down(0);
        x.keep();
        x.write('b');
        int[] want = {3, 3, 2, 1, 1, 1, 3, 1, 47};
        for (int what = 0; what <= 8; what++) {
            due.is("count(" + what + ")", x.count(what), want[what]);
        }
    }

    static void baysAreFrom1To8(Bounds due) {
        due.is("one", Check.laid("b9,0;").count(0), 1);
        due.is("eight", Check.laid(EIGHT).count(0), 8);
        ButtressWall x = Check.laid(EIGHT);
        x.pass(1);
        due.is("FALLEN ones too", x.count(0), 8);
    }

    static void buttressesAreFrom0To6(Bounds due) {
        due.is("none", Check.laid("b9,0;").count(1), 0);
        due.is("six", Check.laid("b9,0;" + SIX).count(1), 6);
        due.is("those DOWN too", Check.laid("b9,0;" + SIX + "d0;d5;").count(1), 6);
    }

    static void hoursAreFrom0On(Bounds due) {
        ButtressWall x = Check.laid("b9,0;");
        due.is("none", x.count(2), 0);
        for (int i = 0; i < 20; i++) {
            x.pass(24);
        }
        due.is("480", x.count(2), 480);
    }

    static void upAreFrom0To6(Bounds due) {
        due.is("six", Check.laid("b9,0;" + SIX).count(3), 6);
        due.is("four", Check.laid("b9,0;" + SIX + "d0;d5;").count(3), 4);
        due.is("none", Check.laid("b9,0;" + SIX + "d0;d1;d2;d3;d4;d5;").count(3), 0);
        due.is("none at all", Check.laid("b9,0;").count(3), 0);
        ButtressWall x = Check.laid("b99,0;" + SIX);
        x.pass(1);
        due.is("none at a FALLEN BAY", x.count(3), 0);
    }

    static void heldAreFrom0To8(Bounds due) {
        due.is("none", Check.laid(EIGHT).count(4), 0);
        due.is("eight", Check.laid("b0,0;".repeat(8)).count(4), 8);
        due.is("as much as LOAD", Check.laid("b9,0;f0,9,0,9;").count(4), 1);
        due.is("one less", Check.laid("b9,0;f0,8,0,9;").count(4), 0);
    }

    static void heldAreOfThoseThatHaveNotFallen(Bounds due) {
        ButtressWall x = Check.laid("b1,0;b0,0;");
        due.is("ahead", x.count(4), 1);
        x.pass(1);
        due.is("FALLEN", x.count(5), 1);
        due.is("behind", x.count(4), 1);
        ButtressWall y = Check.laid("b10,0;b0,0;f0,5,1,30;");
        y.pass(1);
        due.is("beside a FALLEN one", y.count(4), 1);
        y.down(0);
        due.is("none", y.count(4), 0);
    }

    static void fallenAreFrom0To8(Bounds due) {
        ButtressWall x = Check.laid(EIGHT);
        due.is("none", x.count(5), 0);
        x.pass(1);
        due.is("eight", x.count(5), 8);
    }

    static void undoneAreFrom0To8(Bounds due) {
        ButtressWall x = Check.laid("b0,0;");
        for (int i = 0; i <= 10; i++) {
            due.is("count(6) behind " + i, x.count(6), Math.min(i, 8));
            x.pass(1);
        }
    }

    static void keptAreFrom0To2(Bounds due) {
        ButtressWall x = Check.laid("b0,0;");
        for (int i = 0; i <= 4; i++) {
            due.is("count(7) behind " + i, x.count(7), Math.min(i, 2));
            x.keep();
        }
    }

    static void lettersAreFrom0To200(Bounds due) {
        ButtressWall x = new ButtressWall();
        for (int i = 0; i <= 202; i++) {
            due.is("count(8) behind " + i, x.count(8), Math.min(i, 200));
            x.write('b');
        }
    }

    static void askingChangesNothing(Bounds due) {
        for (int what = 0; what <= 8; what++) {
            int asked = what;
            due.changesNothing("count(" + what + ")", Told::lived, x -> x.count(asked));
        }
    }
}
