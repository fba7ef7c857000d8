/** Promise 13, undo: the last 8 of HOURS, coming DOWN, going UP and sending, the latest first. */
public final class Promise13Undo {
    public static void main(String[] args) {
        Bounds.tryAll(Promise13Undo.class);
    }

    static void whereThereIsNothingItIsRefused(Bounds due) {
        due.refused("undo()", () -> Check.laid("b0,0;"), x -> x.undo(), Bounds.NO);
        due.refused("undo() with one KEPT", () -> {
            ButtressWall x = Check.laid("b0,0;");
            x.keep();
            return x;
        }, x -> x.undo(), Bounds.NO);
    }

    static void oneIsUndoneOnce(Bounds due) {
        ButtressWall x = Check.laid("b0,0;");
        x.pass(3);
        due.is("undo()", x.undo(), 0);
        due.is("hours", x.count(2), 0);
        due.is("undo() once more", x.undo(), Bounds.NO);
        due.is("hours stay", x.count(2), 0);
    }

    /** What was done is told by how many hours had gone by ahead of it. */
    private static void undoAll(Bounds due, int done) {
        ButtressWall x = Check.laid("b0,0;");
        for (int i = 0; i < done; i++) {
            x.pass(1);
        }
        int can = Math.min(done, 8);
        due.is("count(6) of " + done, x.count(6), can);
        for (int i = 1; i <= can; i++) {
            due.is("undo() " + i + " of " + done, x.undo(), can - i);
            due.is("hours behind undo() " + i + " of " + done, x.count(2), done - i);
        }
        due.is("undo() of more of " + done, x.undo(), Bounds.NO);
        due.is("hours behind more of " + done, x.count(2), done - can);
    }

    static void sevenAndEightAreUndone(Bounds due) {
        undoAll(due, 7);
        undoAll(due, 8);
    }

    static void theNinthIsNot(Bounds due) {
        undoAll(due, 9);
    }

    static void theRowOfEightBeginsAgain(Bounds due) {
        for (int done = 10; done <= 26; done++) {
            undoAll(due, done);
        }
    }

    static void undoneAndDoneAgainAcrossTheRow(Bounds due) {
        ButtressWall x = Check.laid("b0,0;");
        int hours = 0;
        for (int round = 0; round < 5; round++) {
            for (int i = 0; i < 5; i++) {
                x.pass(1);
                hours++;
            }
            for (int i = 0; i < 3; i++) {
                x.undo();
                hours--;
                due.is("hours in round " + round, x.count(2), hours);
            }
        }
        int can = x.count(6);
        due.is("count(6)", can, 5);
        for (int i = 0; i < 5; i++) {
            due.is("undo()", x.undo(), 4 - i);
        }
        due.is("hours", x.count(2), 5);
        due.is("undo() of more", x.undo(), Bounds.NO);
    }

    static void eachOfTheFourDeedsIsUndone(Bounds due) {
        ButtressWall x = Check.laid("b10,1;b0,0;f0,5,0,9;f0,5,1,9;");
        String[] stood = new String[4];
        stood[0] = Told.brief(x);
        x.down(0);
        stood[1] = Told.brief(x);
        x.send(0, 1);
        stood[2] = Told.brief(x);
        x.up(0);
        stood[3] = Told.brief(x);
        x.pass(3);
        due.is("FALLEN", x.count(5), 1);
        for (int left = 3; left >= 0; left--) {
            due.is("undo()", x.undo(), left);
            due.same("as it stood with " + left, Told.brief(x), stood[left]);
        }
    }

    static void theTextIsNotUndone(Bounds due) {
        ButtressWall x = Check.laid("b0,0;");
        x.pass(1);
        Check.write(x, "b1,1;");
        x.pass(1);
        x.undo();
        x.undo();
        due.is("letters", x.count(8), 10);
        due.is("lay()", x.lay(), 2);
    }

    static void undoingIsNoDeedOfItsOwn(Bounds due) {
        ButtressWall x = Check.laid("b0,0;");
        x.pass(1);
        x.pass(2);
        x.undo();
        due.is("count(6)", x.count(6), 1);
        x.undo();
        due.is("hours", x.count(2), 0);
    }

    static void refusedCallsAreNotUndone(Bounds due) {
        ButtressWall x = Told.lived();
        x.pass(0);
        x.pass(25);
        x.down(0);
        x.down(1);
        x.up(2);
        x.up(3);
        x.send(1, 0);
        x.send(0, 3);
        x.lay();
        due.is("count(6)", x.count(6), 3);
        due.same("all of it", Told.undone(x), Told.undone(Told.lived()));
    }

    static void questionsWritingAndKeepingAreNotUndone(Bounds due) {
        ButtressWall x = Told.lived();
        x.stands(0);
        x.needed();
        x.cuts();
        x.roster(5, -1);
        x.place(0);
        x.strong(0);
        x.who(0, 0);
        x.knees(3, 9);
        x.shirkers(5, 0);
        x.night(5, 60, 0);
        x.keep();
        x.write('b');
        x.wipe();
        due.is("count(6)", x.count(6), 3);
        due.same("all of it", Told.undone(x), Told.undone(Told.lived()));
        due.is("KEPT stays", x.count(7), 2);
        due.is("letters stay", x.count(8), 0);
    }
}
