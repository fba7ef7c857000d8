/** Promise 7, buttress: KIND, STRENGTH, BAY, L, TIRED, UP of a BUTTRESS. */
public final class Promise07Buttress {
    public static void main(String[] args) {
        Bounds.tryAll(Promise07Buttress.class);
    }

    static void theFirstButtressIs0(Bounds due) {
        due.is("buttress(0, 1)", Told.lived().buttress(0, 1), 9);
        due.refused("buttress(-1, 1)", Told::lived, x -> x.buttress(-1, 1), Bounds.BAD);
    }

    static void theLastButtressIsOneLessThanThereAre(Bounds due) {
        due.is("buttress(3, 1)", Told.lived().buttress(3, 1), 1);
        due.refused("buttress(4, 1)", Told::lived, x -> x.buttress(4, 1), Bounds.BAD);
        due.is("buttress(5, 1) of six", new ButtressWall().buttress(5, 1), 22);
        due.is("buttress(6, 1) of six", new ButtressWall().buttress(6, 1), Bounds.BAD);
    }

    static void whereThereIsNoneAllAreBad(Bounds due) {
        for (int what = 0; what <= 5; what++) {
            due.is("buttress(0, " + what + ")", Check.laid("b0,0;").buttress(0, what), Bounds.BAD);
        }
    }

    static void whatIsFrom0To5(Bounds due) {
        due.is("buttress(1, 0)", Told.lived().buttress(1, 0), 3);
        due.is("buttress(1, 5)", Told.lived().buttress(1, 5), 1);
        due.refused("buttress(1, -1)", Told::lived, x -> x.buttress(1, -1), Bounds.BAD);
        due.refused("buttress(1, 6)", Told::lived, x -> x.buttress(1, 6), Bounds.BAD);
    }

    static void numbersFarOutsideAreBad(Bounds due) {
        for (int far : Bounds.FAR) {
            due.is("buttress(" + far + ", 0)", Told.lived().buttress(far, 0), Bounds.BAD);
            due.is("buttress(0, " + far + ")", Told.lived().buttress(0, far), Bounds.BAD);
            due.is("buttress(" + far + ", " + far + ")", Told.lived().buttress(far, far), Bounds.BAD);
        }
    }

    static void theLeastAndTheMostThatIsTold(Bounds due) {
        ButtressWall x = Check.laid("b0,0;b0,0;b0,0;b0,0;b0,0;b0,0;b0,0;b0,0;f0,1,0,1;f3,99,7,30;");
        due.same("KIND", Check.buttresses(x, 0), "0 3");
        due.same("STRENGTH", Check.buttresses(x, 1), "1 99");
        due.same("BAY", Check.buttresses(x, 2), "0 7");
        due.same("L", Check.buttresses(x, 3), "1 30");
    }

    static void eachAnswerIsItsOwn(Bounds due) {
        ButtressWall x = Check.laid("b0,5;b0,4;f2,33,1,17;f3,44,0,8;d1;");
        x.pass(3);
        int[][] want = {{2, 33, 1, 17, 6, 1}, {3, 44, 0, 8, 0, 0}};
        for (int what = 0; what <= 5; what++) {
            due.is("buttress(0, " + what + ")", x.buttress(0, what), want[0][what]);
            due.is("buttress(1, " + what + ")", x.buttress(1, what), want[1][what]);
        }
    }

    static void theBayIsThatToWhichItWasSent(Bounds due) {
        ButtressWall x = Check.laid("b0,5;b0,4;f2,33,1,17;d0;");
        due.is("BAY", x.buttress(0, 2), 1);
        x.send(0, 0);
        due.is("BAY then", x.buttress(0, 2), 0);
    }

    static void tiredIs0AtLeast(Bounds due) {
        ButtressWall x = Check.laid("b0,0;f0,1,0,9;f2,1,0,9;f0,1,0,9;d2;");
        x.pass(1);
        x.down(0);
        x.down(1);
        due.same("TIRED", Check.buttresses(x, 4), "1 2 0");
        x.pass(1);
        due.same("TIRED behind a rest", Check.buttresses(x, 4), "0 1 0");
        x.pass(2);
        due.same("TIRED behind three", Check.buttresses(x, 4), "0 0 0");
    }

    static void tiredIs99AtMost(Bounds due) {
        ButtressWall x = Check.laid("b0,0;f3,1,0,1;c1;");
        for (int i = 0; i < 4; i++) {
            x.pass(24);
        }
        x.pass(2);
        due.is("TIRED behind 98", x.buttress(0, 4), 98);
        x.pass(1);
        due.is("TIRED behind 99", x.buttress(0, 4), 99);
        x.pass(1);
        due.is("TIRED behind 100", x.buttress(0, 4), 99);
        x.pass(24);
        due.is("TIRED behind 124", x.buttress(0, 4), 99);
    }

    static void askingChangesNothing(Bounds due) {
        for (int what = 0; what <= 5; what++) {
            int asked = what;
            due.changesNothing("buttress(1, " + what + ")", Told::lived, x -> x.buttress(1, asked));
        }
    }
}
