/** Promises 9 to 13: pass, down, up, send, undo. */
public final class HoursTest {
    private static final Check CHECK = new Check();
    private static final int NO = ButtressWall.NO, BAD = ButtressWall.BAD;

    public static void main(String[] args) {
        passing();
        tiringAndResting();
        youngOnesAlone();
        mostTired();
        kneesGiveWay();
        shyKneesGiveWay();
        falling();
        fallingByTheHourAhead();
        fallingTakesDown();
        comingDown();
        goingUp();
        sending();
        undoing();
        undoingTheLastEight();
        CHECK.end();
    }

    private static void passing() {
        ButtressWall x = Check.laid("b0,0;");
        for (int n : new int[] {0, 25, -1, Integer.MIN_VALUE, Integer.MAX_VALUE}) {
            CHECK.due("pass(" + n + ")", x.pass(n), BAD);
        }
        CHECK.due("hours", x.count(2), 0);
        CHECK.due("UNDONE", x.count(6), 0);
        CHECK.due("pass(24)", x.pass(24), 24);
        CHECK.due("pass(1)", x.pass(1), 25);
        CHECK.due("hours", x.count(2), 25);
    }

    private static void tiringAndResting() {
        ButtressWall x = Check.laid("b0,0;b0,0;b0,0;b0,0;b0,0;b0,0;"
                + "f0,5,0,30;f1,5,1,30;f1,5,3,30;f2,5,5,30;f3,5,5,30;f2,5,5,30;d5;");
        x.pass(1);
        CHECK.same("TIRED behind 1", Check.buttresses(x, 4), "1 1 2 2 1 0");
        x.pass(4);
        CHECK.same("TIRED behind 5", Check.buttresses(x, 4), "5 5 10 10 5 0");
        CHECK.due("down(0)", x.down(0), 5);
        x.pass(1);
        CHECK.same("TIRED behind 6", Check.buttresses(x, 4), "3 7 12 12 6 0");
        CHECK.due("down(3)", x.down(3), 12);
        x.pass(1);
        CHECK.same("TIRED behind 7", Check.buttresses(x, 4), "1 9 14 11 7 0");
        x.pass(1);
        CHECK.same("TIRED 0 at least", Check.buttresses(x, 4), "0 11 16 10 8 0");
        x.down(1);
        x.down(4);
        x.pass(1);
        CHECK.same("YOUNG and SHY rest by 2", Check.buttresses(x, 4), "0 9 18 9 6 0");
    }

    private static void youngOnesAlone() {
        String bays = "b0,0;b0,0;b0,0;b0,0;";
        CHECK.same("one BAY", tiredOf(bays + "f1,5,1,30;f1,5,1,30;"), "1 1");
        CHECK.same("next BAYS", tiredOf(bays + "f1,5,1,30;f0,5,2,30;"), "1 1");
        CHECK.same("next BAYS, west", tiredOf(bays + "f1,5,1,30;f0,5,0,30;"), "1 1");
        CHECK.same("a BAY between", tiredOf(bays + "f1,5,1,30;f0,5,3,30;"), "2 1");
        CHECK.same("the other is DOWN", tiredOf(bays + "f1,5,1,30;f0,5,1,30;d1;"), "2 0");
        CHECK.same("all alone", tiredOf(bays + "f1,5,0,30;"), "2");
        ButtressWall x = Check.laid(bays + "f1,5,1,30;f0,5,1,1;");
        x.pass(2);
        CHECK.same("the other comes DOWN behind it", Check.buttresses(x, 4), "2 2");
        x.pass(1);
        CHECK.same("the other is DOWN now", Check.buttresses(x, 4), "4 0");
    }

    private static String tiredOf(String text) {
        ButtressWall x = Check.laid(text);
        x.pass(1);
        return Check.buttresses(x, 4);
    }

    private static void mostTired() {
        ButtressWall x = Check.laid("b0,0;f3,5,0,2;c1;");
        x.pass(24);
        x.pass(24);
        x.pass(24);
        x.pass(24);
        CHECK.due("TIRED behind 96", x.buttress(0, 4), 96);
        x.pass(3);
        CHECK.due("TIRED behind 99", x.buttress(0, 4), 99);
        x.pass(24);
        CHECK.due("TIRED 99 at most", x.buttress(0, 4), 99);
        CHECK.due("UP all the while", x.buttress(0, 5), 1);
    }

    private static void kneesGiveWay() {
        ButtressWall x = Check.laid("b0,0;f0,5,0,3;f2,5,0,3;");
        x.pass(1);
        CHECK.same("UP behind 1", Check.buttresses(x, 5), "1 1");
        x.pass(1);
        CHECK.same("UP behind 2", Check.buttresses(x, 5), "1 0");
        x.pass(1);
        CHECK.same("UP behind 3", Check.buttresses(x, 5), "1 0");
        CHECK.same("as TIRED as L", Check.buttresses(x, 4), "3 3");
        x.pass(1);
        CHECK.same("UP behind 4", Check.buttresses(x, 5), "0 0");
    }

    private static void shyKneesGiveWay() {
        ButtressWall x = Check.laid("b0,0;f3,5,0,2;c0;c0;c1;c1;c0;");
        x.pass(2);
        CHECK.due("UP, as TIRED as L", x.buttress(0, 5), 1);
        x.pass(2);
        CHECK.due("UP by CARTS", x.buttress(0, 5), 1);
        CHECK.due("TIRED by CARTS", x.buttress(0, 4), 4);
        x.pass(1);
        CHECK.due("DOWN without CARTS", x.buttress(0, 5), 0);
        ButtressWall y = Check.laid("b0,0;f0,5,0,2;c1;");
        y.pass(3);
        CHECK.due("a PLAIN one minds no CARTS", y.buttress(0, 5), 0);
    }

    private static void falling() {
        ButtressWall x = Check.laid("b10,2;f0,10,0,30;");
        x.down(0);
        x.pass(2);
        CHECK.due("unheld for 2", x.bay(0, 5), 2);
        x.up(0);
        x.pass(1);
        CHECK.due("HELD once more", x.bay(0, 5), 0);
        x.down(0);
        x.pass(1);
        CHECK.due("unheld from the start", x.bay(0, 5), 1);
        x.pass(1);
        CHECK.due("FALLEN behind H", x.bay(0, 6), 0);
        x.pass(1);
        CHECK.due("FALLEN behind more than H", x.bay(0, 6), 1);
        CHECK.due("up(0) where all has FALLEN", x.up(0), NO);
        x.pass(24);
        CHECK.due("stays FALLEN", x.count(5), 1);
        ButtressWall y = Check.laid("b10,0;");
        y.pass(1);
        CHECK.due("H 0 FALLS at once", y.bay(0, 6), 1);
    }

    private static void fallingByTheHourAhead() {
        ButtressWall x = Check.laid("b10,0;b10,0;f0,12,1,30;");
        x.pass(1);
        CHECK.same("FALLEN behind 1", Check.bays(x, 6), "1 0");
        CHECK.due("HELD no more", x.bay(1, 4), 0);
        CHECK.due("but it was", x.bay(1, 5), 0);
        x.pass(1);
        CHECK.same("FALLEN behind 2", Check.bays(x, 6), "1 1");
        ButtressWall y = Check.laid("b10,1;f0,10,0,1;");
        y.pass(2);
        CHECK.due("HELD by one that comes DOWN behind it", y.bay(0, 5), 0);
        CHECK.due("that one is DOWN", y.buttress(0, 5), 0);
        y.pass(1);
        CHECK.due("unheld then", y.bay(0, 5), 1);
    }

    private static void fallingTakesDown() {
        ButtressWall x = Check.laid("b10,0;b0,0;f3,5,0,30;f0,2,0,30;f0,5,1,30;c1;");
        x.pass(1);
        CHECK.same("all at the FALLEN are DOWN", Check.buttresses(x, 5), "0 0 1");
        CHECK.due("UP", x.count(3), 1);
    }

    private static void comingDown() {
        ButtressWall x = Check.laid("b0,0;f3,5,0,9;f0,5,0,9;c1;c0;");
        for (int f : new int[] {-1, 2, Integer.MIN_VALUE, Integer.MAX_VALUE}) {
            CHECK.due("down(" + f + ")", x.down(f), BAD);
        }
        CHECK.due("down of a SHY one, CARTS", x.down(0), NO);
        CHECK.due("nothing to be UNDONE", x.count(6), 0);
        x.pass(1);
        CHECK.due("down of a SHY one, no CARTS", x.down(0), 1);
        CHECK.due("down once more", x.down(0), NO);
        CHECK.due("UNDONE", x.count(6), 2);
        CHECK.due("UP", x.buttress(0, 5), 0);
        CHECK.due("down of a PLAIN one", x.down(1), 1);
        CHECK.due("UP of all", x.count(3), 0);
    }

    private static void goingUp() {
        ButtressWall x = Check.laid("b0,0;b9,0;f0,5,0,3;f3,5,0,9;f0,5,1,9;f0,5,0,9;c1;c0;d1;d2;");
        for (int f : new int[] {-1, 4, Integer.MIN_VALUE, Integer.MAX_VALUE}) {
            CHECK.due("up(" + f + ")", x.up(f), BAD);
        }
        CHECK.due("up of one that is UP", x.up(0), NO);
        CHECK.due("up of a SHY one, CARTS", x.up(1), NO);
        x.pass(1);
        CHECK.due("UNDONE", x.count(6), 1);
        CHECK.due("up of a SHY one, no CARTS", x.up(1), 3);
        CHECK.due("up at a FALLEN BAY", x.up(2), NO);
        x.pass(2);
        CHECK.due("down as TIRED as L", x.down(0), 3);
        CHECK.due("up as TIRED as L", x.up(0), NO);
        x.pass(1);
        CHECK.due("up less TIRED than L", x.up(0), 3);
        CHECK.due("TIRED", x.buttress(0, 4), 1);
        x.down(0);
        x.pass(1);
        x.send(2, 0);
        x.down(3);
        CHECK.due("up of one that was SENT", x.up(2), 2);
    }

    private static void sending() {
        ButtressWall x = Check.laid("b0,0;b9,0;b0,0;f0,5,0,3;f3,5,0,9;c1;d0;d1;");
        CHECK.due("send(2, 0)", x.send(2, 0), BAD);
        CHECK.due("send(-1, 0)", x.send(-1, 0), BAD);
        CHECK.due("send(0, 3)", x.send(0, 3), BAD);
        CHECK.due("send(0, -1)", x.send(0, -1), BAD);
        CHECK.due("send(0, MAX)", x.send(0, Integer.MAX_VALUE), BAD);
        CHECK.due("send(MIN, 0)", x.send(Integer.MIN_VALUE, 0), BAD);
        CHECK.due("send(0, 2)", x.send(0, 2), 0);
        CHECK.due("send(0, 2) once more", x.send(0, 2), 2);
        CHECK.due("send(1, 1) SHY, CARTS", x.send(1, 1), 0);
        CHECK.due("UNDONE", x.count(6), 3);
        x.pass(1);
        CHECK.due("FALLEN", x.bay(1, 6), 1);
        CHECK.due("send to a FALLEN BAY", x.send(0, 1), 2);
        CHECK.due("send from a FALLEN BAY", x.send(0, 0), 1);
        x.up(0);
        CHECK.due("send of one that is UP", x.send(0, 2), NO);
        CHECK.due("send of one that is UP to no BAY", x.send(0, 3), BAD);
        CHECK.due("BAY", x.buttress(0, 2), 0);
    }

    private static void undoing() {
        ButtressWall x = Check.laid("b10,1;b0,0;f0,5,0,9;f0,5,1,9;");
        CHECK.due("undo of nothing", x.undo(), NO);
        x.down(0);
        x.send(0, 1);
        x.up(0);
        x.pass(3);
        CHECK.due("FALLEN", x.bay(0, 6), 1);
        CHECK.due("hours", x.count(2), 3);
        CHECK.due("undo of HOURS", x.undo(), 3);
        CHECK.due("hours", x.count(2), 0);
        CHECK.due("FALLEN no more", x.bay(0, 6), 0);
        CHECK.due("unheld no more", x.bay(0, 5), 0);
        CHECK.same("TIRED no more", Check.buttresses(x, 4), "0 0");
        CHECK.same("UP still", Check.buttresses(x, 5), "1 1");
        CHECK.due("undo of up", x.undo(), 2);
        CHECK.same("UP no more", Check.buttresses(x, 5), "0 1");
        CHECK.due("undo of send", x.undo(), 1);
        CHECK.same("BAY", Check.buttresses(x, 2), "0 1");
        CHECK.due("undo of down", x.undo(), 0);
        CHECK.same("UP", Check.buttresses(x, 5), "1 1");
        CHECK.due("undo of nothing", x.undo(), NO);
        x.down(1);
        CHECK.due("UNDONE anew", x.count(6), 1);
        CHECK.due("undo anew", x.undo(), 0);
        CHECK.due("UP anew", x.buttress(1, 5), 1);
    }

    private static void undoingTheLastEight() {
        ButtressWall x = Check.laid("b0,0;f0,5,0,30;");
        for (int i = 1; i <= 11; i++) {
            x.pass(i);
            CHECK.due("UNDONE behind " + i, x.count(6), Math.min(i, 8));
        }
        int hours = 66;
        for (int i = 11; i > 3; i--) {
            hours -= i;
            CHECK.due("undo of pass(" + i + ")", x.undo(), i - 4);
            CHECK.due("hours ahead of pass(" + i + ")", x.count(2), hours);
        }
        CHECK.due("undo of the ninth", x.undo(), NO);
        CHECK.due("hours stay", x.count(2), 6);
    }
}
