/** Promise 3, wipe: the text is empty then, however long it was, and nothing else is changed. */
public final class Promise03Wipe {
    public static void main(String[] args) {
        Bounds.tryAll(Promise03Wipe.class);
    }

    static void anEmptyTextWas0Long(Bounds due) {
        due.refused("wipe()", ButtressWall::new, x -> x.wipe(), 0);
    }

    static void aTextOfOneLetterWas1Long(Bounds due) {
        ButtressWall x = new ButtressWall();
        x.write('b');
        due.is("wipe()", x.wipe(), 1);
        due.is("letters", x.count(8), 0);
    }

    static void aFullTextWas200Long(Bounds due) {
        ButtressWall x = new ButtressWall();
        for (int i = 0; i < 201; i++) {
            x.write('c');
        }
        due.is("wipe()", x.wipe(), 200);
        due.is("letters", x.count(8), 0);
    }

    static void wipedOnceMoreItWas0Long(Bounds due) {
        ButtressWall x = Told.lived();
        due.is("wipe()", x.wipe(), Told.LEFT.length());
        due.is("wipe() once more", x.wipe(), 0);
    }

    static void theWipedTextHasNoFaultAndIsNotLaid(Bounds due) {
        ButtressWall x = Told.lived();
        x.wipe();
        due.is("fault()", x.fault(), Bounds.NONE);
        due.is("lay()", x.lay(), Bounds.NO);
    }

    static void nothingOfTheWipedTextIsReadAgain(Bounds due) {
        ButtressWall x = Check.laid("b1,1;b2,2;");
        x.wipe();
        Check.write(x, "b3,3");
        due.is("fault()", x.fault(), 0);
        x.write(';');
        due.is("lay()", x.lay(), 1);
        due.is("THRUST", x.bay(0, 0), 3);
    }

    static void nothingButTheTextIsChanged(Bounds due) {
        ButtressWall x = Told.lived();
        x.wipe();
        due.same("the wall", Told.wall(x), Told.wall(Told.lived()));
        due.same("UNDONE", Told.undone(x), Told.undone(Told.lived()));
        due.is("letters behind undo()", x.count(8), 0);
        ButtressWall y = Told.lived();
        y.wipe();
        due.same("KEPT", Told.kept(y), Told.kept(Told.lived()));
        due.is("letters behind back()", y.count(8), 0);
    }
}
