/** Promise 24, keep: all as it stands is KEPT, 2 at most. */
public final class Promise24Keep {
    public static void main(String[] args) {
        Bounds.tryAll(Promise24Keep.class);
    }

    static void theFirstAndTheSecondAreKept(Bounds due) {
        ButtressWall x = new ButtressWall();
        due.is("keep()", x.keep(), 1);
        due.is("count(7)", x.count(7), 1);
        due.is("keep()", x.keep(), 2);
        due.is("count(7)", x.count(7), 2);
    }

    static void theThirdIsFull(Bounds due) {
        due.refused("keep()", Told::livedLong, x -> x.keep(), Bounds.FULL);
        due.refused("keep() thrice", () -> {
            ButtressWall x = new ButtressWall();
            x.keep();
            x.pass(1);
            x.keep();
            x.pass(1);
            return x;
        }, x -> x.keep(), Bounds.FULL);
    }

    static void thereIsRoomOnceOneIsGone(Bounds due) {
        ButtressWall x = new ButtressWall();
        x.keep();
        x.pass(1);
        x.keep();
        x.pass(1);
        x.back();
        x.pass(5);
        due.is("keep()", x.keep(), 2);
        due.is("keep() of more", x.keep(), Bounds.FULL);
        x.pass(1);
        due.is("back()", x.back(), 1);
        due.is("hours", x.count(2), 6);
        due.is("back()", x.back(), 0);
        due.is("hours", x.count(2), 0);
    }

    static void thereIsRoomOnceOneIsLaid(Bounds due) {
        ButtressWall x = Check.laid("b0,0;");
        x.keep();
        x.keep();
        x.lay();
        due.is("keep()", x.keep(), 1);
    }

    static void keepingChangesNothingElse(Bounds due) {
        ButtressWall x = Told.lived();
        String ahead = Told.brief(x);
        x.keep();
        due.same("the wall", Told.brief(x), ahead);
        due.is("letters", x.count(8), Told.LEFT.length());
        due.same("UNDONE", Told.undone(x), Told.undone(Told.lived()));
    }

    static void theSameIsKeptTwice(Bounds due) {
        ButtressWall x = Check.laid("b0,0;");
        x.pass(3);
        x.keep();
        x.keep();
        x.pass(1);
        due.is("back()", x.back(), 1);
        due.is("hours", x.count(2), 3);
        x.pass(1);
        due.is("back()", x.back(), 0);
        due.is("hours", x.count(2), 3);
    }

    static void whatIsKeptIsNotChangedByWhatIsDoneLater(Bounds due) {
        ButtressWall x = Check.laid("b9,0;b0,9;f0,9,0,30;f1,5,1,30;d1;");
        x.keep();
        String kept = Told.brief(x);
        x.down(0);
        x.send(1, 0);
        x.pass(9);
        due.is("FALLEN", x.count(5), 1);
        x.back();
        due.same("as it stood", Told.brief(x), kept);
    }
}
