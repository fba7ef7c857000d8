/** Promise 25, back: as KEPT last; nothing is UNDONE then. */
public final class Promise25Back {
    public static void main(String[] args) {
        Bounds.tryAll(Promise25Back.class);
    }

    private static ButtressWall doneButNotKept() {
        ButtressWall x = Check.laid("b9,3;f0,9,0,9;");
        x.pass(2);
        x.down(0);
        return x;
    }

    static void whereNothingIsKeptItIsRefused(Bounds due) {
        due.refused("back()", () -> Check.laid("b0,0;"), x -> x.back(), Bounds.NO);
        due.refused("back() with some UNDONE", Promise25Back::doneButNotKept, x -> x.back(), Bounds.NO);
        due.refused("back() once more", () -> {
            ButtressWall x = doneButNotKept();
            x.keep();
            x.back();
            x.pass(1);
            return x;
        }, x -> x.back(), Bounds.NO);
    }

    static void theLastKeptComesFirst(Bounds due) {
        ButtressWall x = Check.laid("b0,0;");
        x.pass(1);
        x.keep();
        x.pass(1);
        x.keep();
        x.pass(1);
        due.is("back()", x.back(), 1);
        due.is("hours", x.count(2), 2);
        due.is("back()", x.back(), 0);
        due.is("hours", x.count(2), 1);
        due.is("back()", x.back(), Bounds.NO);
        due.is("hours stay", x.count(2), 1);
    }

    static void nothingCanBeUndoneThen(Bounds due) {
        ButtressWall x = Told.livedLong();
        due.is("count(6) ahead", x.count(6), 8);
        x.back();
        due.is("count(6)", x.count(6), 0);
        String stood = Told.brief(x);
        due.is("undo()", x.undo(), Bounds.NO);
        due.same("as it stood", Told.brief(x), stood);
    }

    static void asManyAsBeforeCanBeUndoneLater(Bounds due) {
        ButtressWall x = Told.livedLong();
        x.back();
        int hours = x.count(2);
        for (int i = 1; i <= 9; i++) {
            x.pass(1);
            due.is("count(6) behind " + i, x.count(6), Math.min(i, 8));
        }
        for (int left = 7; left >= 0; left--) {
            due.is("undo()", x.undo(), left);
        }
        due.is("hours", x.count(2), hours + 1);
        due.is("undo() of the ninth", x.undo(), Bounds.NO);
    }

    static void allOfTheWallIsAsItStood(Bounds due) {
        ButtressWall x = Check.laid("b9,3;b8,0;f0,9,0,9;f2,5,1,9;f1,4,0,9;c0;c1;d1;");
        x.pass(2);
        x.down(2);
        String stood = Told.brief(x) + x.carts(0);
        x.keep();
        x.send(1, 0);
        x.up(2);
        x.down(0);
        x.pass(5);
        due.is("FALLEN", x.count(5), 2);
        due.is("back()", x.back(), 0);
        due.same("as it stood", Told.brief(x) + x.carts(0), stood);
    }

    static void undoDoesNotReachWhatIsKept(Bounds due) {
        ButtressWall x = Check.laid("b0,0;");
        x.pass(1);
        x.keep();
        due.is("undo()", x.undo(), 0);
        due.is("hours", x.count(2), 0);
        due.is("KEPT", x.count(7), 1);
        due.is("back()", x.back(), 0);
        due.is("hours", x.count(2), 1);
    }

    static void theTextIsNoPartOfIt(Bounds due) {
        ButtressWall x = Check.laid("b7,0;");
        x.keep();
        Check.write(x, "b8,0;");
        x.back();
        due.is("letters", x.count(8), 10);
        due.is("lay()", x.lay(), 2);
    }
}
