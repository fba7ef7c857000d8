/** Promise 2, write: a letter from 32 to 126, 200 of them at most. */
public final class Promise02Write {
    public static void main(String[] args) {
        Bounds.tryAll(Promise02Write.class);
    }

    private static ButtressWall written(int letters) {
        ButtressWall x = new ButtressWall();
        for (int i = 0; i < letters; i++) {
            x.write('c');
        }
        return x;
    }

    static void letter32IsTheSmallest(Bounds due) {
        due.is("write(32)", new ButtressWall().write(32), 1);
    }

    static void letter31IsOneBelow(Bounds due) {
        due.refused("write(31)", Told::lived, x -> x.write(31), Bounds.BAD);
    }

    static void letter126IsTheLargest(Bounds due) {
        due.is("write(126)", new ButtressWall().write(126), 1);
    }

    static void letter127IsOneAbove(Bounds due) {
        due.refused("write(127)", Told::lived, x -> x.write(127), Bounds.BAD);
    }

    static void lettersFarOutsideAreBad(Bounds due) {
        for (int letter : new int[] {-1, 0, 9, 10, 128, 255, 256 + 'b', 65536 + 'b', -65536 + 'b'}) {
            due.refused("write(" + letter + ")", Told::lived, x -> x.write(letter), Bounds.BAD);
        }
        for (int letter : Bounds.FAR) {
            due.refused("write(" + letter + ")", Told::lived, x -> x.write(letter), Bounds.BAD);
        }
    }

    static void everyLetterBetweenIsTaken(Bounds due) {
        ButtressWall x = new ButtressWall();
        for (int letter = 32; letter <= 126; letter++) {
            due.is("write(" + letter + ")", x.write(letter), letter - 31);
        }
        due.is("letters", x.count(8), 95);
    }

    static void letter200IsTheLastOne(Bounds due) {
        ButtressWall x = written(198);
        due.is("the 199th", x.write('c'), 199);
        due.is("the 200th", x.write('c'), 200);
        due.is("letters", x.count(8), 200);
    }

    static void letter201IsFull(Bounds due) {
        due.refused("the 201st", () -> written(200), x -> x.write('c'), Bounds.FULL);
    }

    static void badComesAheadOfFull(Bounds due) {
        due.refused("write(31) to a full text", () -> written(200), x -> x.write(31), Bounds.BAD);
        due.refused("write(127) to a full text", () -> written(200), x -> x.write(127), Bounds.BAD);
    }

    static void aFullTextTakesLettersOnceItIsWiped(Bounds due) {
        ButtressWall x = written(200);
        x.write('c');
        x.wipe();
        due.is("write", x.write('c'), 1);
    }

    static void aLetterComesBehindTheText(Bounds due) {
        ButtressWall x = new ButtressWall();
        Check.write(x, "b12,3");
        due.is("fault() without its end", x.fault(), 0);
        due.is("write(';')", x.write(';'), 6);
        due.is("fault()", x.fault(), Bounds.NONE);
        due.is("lay()", x.lay(), 1);
        due.is("THRUST", x.bay(0, 0), 12);
        due.is("H", x.bay(0, 1), 3);
    }

    static void theLaidTextIsWrittenOn(Bounds due) {
        ButtressWall x = Check.laid("b1,1;");
        due.is("write('b')", x.write('b'), 6);
        Check.write(x, "2,2;");
        due.is("lay()", x.lay(), 2);
    }

    static void nothingButTheTextIsChanged(Bounds due) {
        ButtressWall x = Told.lived();
        x.write('x');
        due.same("the wall", Told.wall(x), Told.wall(Told.lived()));
        due.same("UNDONE", Told.undone(x), Told.undone(Told.lived()));
        ButtressWall y = Told.lived();
        y.write('x');
        due.same("KEPT", Told.kept(y), Told.kept(Told.lived()));
    }
}
