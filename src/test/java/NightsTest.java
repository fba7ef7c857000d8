/** Promises 22 to 26: shirkers, night, keep, back, count. */
public final class NightsTest {
    private static final Check CHECK = new Check();
    private static final int NO = ButtressWall.NO, BAD = ButtressWall.BAD, FULL = ButtressWall.FULL;

    public static void main(String[] args) {
        shirkers();
        shirkersWithinTwelveHours();
        shirkersGoUp();
        wrongShirkers();
        nightsOfUpAndDown();
        nightsOfNothing();
        nightsOfSending();
        nightsByCarts();
        nightsOfFalling();
        wrongNights();
        keeping();
        goingBack();
        backAndUndone();
        counting();
        CHECK.end();
    }

    private static void chance(String text, int x, int above, int below) {
        ButtressWall wall = Check.laid(text);
        CHECK.due("shirkers(" + x + ", 0) of " + text, wall.shirkers(x, 0), above);
        CHECK.due("shirkers(" + x + ", 1) of " + text, wall.shirkers(x, 1), below);
    }

    private static void shirkers() {
        String either = "b10,0;f0,10,0,30;f0,10,0,30;";
        chance(either, 0, 1, 1);
        chance(either, 3, 91, 100);
        chance(either, 5, 3, 4);
        chance(either, 10, 0, 1);
        String both = "b20,0;f0,10,0,30;f0,10,0,30;";
        chance(both, 0, 1, 1);
        chance(both, 2, 16, 25);
        chance(both, 9, 1, 100);
        chance(both, 10, 0, 1);
        chance(both + "d0;", 0, 0, 1);
        chance(either + "d0;", 4, 3, 5);
        chance(either + "f0,10,0,30;f0,10,0,30;f0,10,0,30;f0,10,0,30;", 1, 999999, 1000000);
        chance(either + "f0,10,0,30;f0,10,0,30;f0,10,0,30;f0,10,0,30;", 7, 882351, 1000000);
        chance("b0,0;", 5, 1, 1);
        chance("b10,0;", 5, 0, 1);
        chance("b10,0;f0,10,0,30;d0;", 5, 0, 1);
        chance("b10,1;f0,10,0,30;", 5, 1, 1);
        chance("b10,1;f0,10,0,30;", 10, 1, 1);
    }

    private static void shirkersWithinTwelveHours() {
        chance("b10,0;f0,10,0,11;", 0, 1, 1);
        chance("b10,0;f0,10,0,10;", 0, 0, 1);
        chance("b10,1;f0,10,0,9;", 0, 0, 1);
        chance("b10,1;f0,10,0,9;", 10, 1, 1);
        chance("b10,1;f0,10,0,9;", 5, 1, 2);
    }

    private static void shirkersGoUp() {
        ButtressWall x = Check.laid("b10,1;f3,10,0,1;c1;");
        x.pass(6);
        CHECK.due("goes UP, whatever KNEES, CARTS", x.shirkers(10, 0), 1);
        ButtressWall y = Check.laid("b10,0;b9,12;f0,10,0,30;f0,14,1,30;");
        y.down(0);
        y.pass(1);
        CHECK.due("FALLEN ahead", y.count(5), 1);
        CHECK.due("what has FALLEN ahead is none that FALLS", y.shirkers(5, 0), 1);
    }

    private static void wrongShirkers() {
        ButtressWall x = Check.laid("b10,0;f0,10,0,30;");
        for (int n : new int[] {-1, 11, Integer.MIN_VALUE, Integer.MAX_VALUE}) {
            CHECK.due("shirkers(" + n + ", 0)", x.shirkers(n, 0), BAD);
        }
        for (int part : new int[] {-1, 2, Integer.MIN_VALUE, Integer.MAX_VALUE}) {
            CHECK.due("shirkers(0, " + part + ")", x.shirkers(0, part), BAD);
        }
    }

    /** DRAW by z 0 is 1 ahead of the first hour, by z 5 56728. */
    private static void nightsOfUpAndDown() {
        CHECK.due("goes UP", Check.laid("b9,0;f0,9,0,9;d0;").night(0, 1, 1), 1);
        CHECK.due("goes UP and holds", Check.laid("b9,0;f0,9,0,9;d0;").night(0, 1, 0), 0);
        CHECK.due("is UP", Check.laid("b0,0;f0,9,0,9;").night(0, 1, 1), 1);
        ButtressWall x = Check.laid("b9,0;f0,9,0,30;f0,5,0,30;");
        CHECK.due("the second comes DOWN", x.night(5, 1, 1), 1);
        CHECK.due("the second comes DOWN, the first holds", x.night(5, 1, 0), 0);
        ButtressWall y = Check.laid("b9,0;f0,5,0,30;f0,9,0,30;");
        CHECK.due("the second comes DOWN, it FALLS", y.night(5, 1, 0), 1);
        CHECK.due("all are DOWN then", y.night(5, 1, 1), 0);
        ButtressWall z = Check.laid("b0,0;f0,5,0,1;");
        z.pass(1);
        z.down(0);
        CHECK.due("goes UP only if less TIRED than L", z.night(0, 1, 1), 0);
    }

    /** Ahead of the first hour DRAW modulo 8 is 3, 5, 6, 7, 4 by z 1, 2, 3, 4, 15; by z 13 it is 6, 5, 2. */
    private static void nightsOfNothing() {
        ButtressWall x = Check.laid("b0,0;f0,5,0,9;d0;");
        for (int z : new int[] {1, 2, 3, 4, 15}) {
            CHECK.due("night(" + z + ", 1, 1), DOWN", x.night(z, 1, 1), 0);
        }
        CHECK.due("night(13, 2, 1), DOWN", x.night(13, 2, 1), 0);
        CHECK.due("night(13, 3, 1), goes UP", x.night(13, 3, 1), 1);
        x.up(0);
        for (int z : new int[] {1, 2, 3, 4, 15}) {
            CHECK.due("night(" + z + ", 1, 1), UP", x.night(z, 1, 1), 1);
        }
    }

    /** By z 9: 1 goes UP, 0 goes UP, 1 is SENT, 0 is SENT to 1, 1 goes UP, 0 goes UP. */
    private static void nightsOfSending() {
        ButtressWall x = Check.laid("b9,0;b0,20;f0,5,0,30;f0,5,1,30;d0;d1;");
        int[] up = {1, 1, 1, 1, 1, 2};
        for (int n = 1; n <= 6; n++) {
            CHECK.due("night(9, " + n + ", 0)", x.night(9, n, 0), 1);
            CHECK.due("night(9, " + n + ", 1)", x.night(9, n, 1), up[n - 1]);
        }
        ButtressWall y = Check.laid("b9,0;b5,20;b0,20;f0,5,0,30;f0,5,1,30;d0;d1;");
        CHECK.due("SENT to another of three", y.night(9, 6, 1), 2);
        y.pass(1);
        CHECK.due("FALLEN ahead", y.night(0, 1, 0), 1);
    }

    /** By z 2 nothing is done ahead of the first hour, then one comes DOWN. */
    private static void nightsByCarts() {
        CHECK.due("SHY, up, CARTS", Check.laid("b0,0;f3,5,0,9;c1;d0;").night(0, 1, 1), 0);
        CHECK.due("SHY, up, no CARTS", Check.laid("b0,0;f3,5,0,9;c0;c1;d0;").night(0, 1, 1), 1);
        CHECK.due("SHY, down, CARTS", Check.laid("b0,0;f3,5,0,9;c0;c1;").night(2, 2, 1), 1);
        CHECK.due("SHY, down, no CARTS", Check.laid("b0,0;f3,5,0,9;c1;c0;").night(2, 2, 1), 0);
        CHECK.due("night(2, 1, 1)", Check.laid("b0,0;f3,5,0,9;c1;c0;").night(2, 1, 1), 1);
        ButtressWall x = Check.laid("b0,0;f3,5,0,9;c0;c1;");
        x.pass(1);
        CHECK.due("SHY, down, no CARTS from now on", x.night(2, 2, 1), 0);
    }

    private static void nightsOfFalling() {
        ButtressWall x = Check.laid("b9,3;b9,5;");
        CHECK.due("night of 3", x.night(1, 3, 0), 0);
        CHECK.due("night of 4", x.night(1, 4, 0), 1);
        CHECK.due("night of 6", x.night(9999, 6, 0), 2);
        CHECK.due("night of 60, nobody", x.night(0, 60, 1), 0);
        x.pass(4);
        CHECK.due("night of 1, FALLEN ahead", x.night(1, 1, 0), 1);
    }

    private static void wrongNights() {
        ButtressWall x = Check.laid("b0,0;f0,5,0,9;");
        for (int z : new int[] {-1, 10000, Integer.MIN_VALUE, Integer.MAX_VALUE}) {
            CHECK.due("night(" + z + ", 1, 0)", x.night(z, 1, 0), BAD);
        }
        for (int n : new int[] {0, 61, -1, Integer.MIN_VALUE, Integer.MAX_VALUE}) {
            CHECK.due("night(0, " + n + ", 0)", x.night(0, n, 0), BAD);
        }
        for (int what : new int[] {-1, 2, Integer.MIN_VALUE, Integer.MAX_VALUE}) {
            CHECK.due("night(0, 1, " + what + ")", x.night(0, 1, what), BAD);
        }
    }

    private static void keeping() {
        ButtressWall x = new ButtressWall();
        CHECK.due("keep", x.keep(), 1);
        CHECK.due("keep twice", x.keep(), 2);
        CHECK.due("keep thrice", x.keep(), FULL);
        CHECK.due("KEPT", x.count(7), 2);
        CHECK.due("nothing to be UNDONE", x.count(6), 0);
        CHECK.due("back", x.back(), 1);
        CHECK.due("keep anew", x.keep(), 2);
    }

    private static void goingBack() {
        ButtressWall x = Check.laid("b9,3;b0,5;f0,9,0,2;f1,3,1,9;");
        x.pass(1);
        x.keep();
        x.down(0);
        x.send(0, 1);
        x.pass(2);
        x.keep();
        x.pass(5);
        CHECK.due("FALLEN", x.count(5), 1);
        CHECK.due("back", x.back(), 1);
        CHECK.due("hours", x.count(2), 3);
        CHECK.same("FALLEN no more", Check.bays(x, 6), "0 0");
        CHECK.same("unheld", Check.bays(x, 5), "2 0");
        CHECK.same("BAY", Check.buttresses(x, 2), "1 1");
        CHECK.same("UP", Check.buttresses(x, 5), "0 1");
        CHECK.same("TIRED", Check.buttresses(x, 4), "0 5");
        CHECK.due("back to the first", x.back(), 0);
        CHECK.due("hours of the first", x.count(2), 1);
        CHECK.same("BAY of the first", Check.buttresses(x, 2), "0 1");
        CHECK.same("UP of the first", Check.buttresses(x, 5), "1 1");
        CHECK.same("TIRED of the first", Check.buttresses(x, 4), "1 1");
        CHECK.due("back to none", x.back(), NO);
        CHECK.due("hours stay", x.count(2), 1);
        x.write('b');
        x.keep();
        x.write('9');
        x.back();
        CHECK.due("THE TEXT is none of the wall", x.count(8), 30);
    }

    private static void backAndUndone() {
        ButtressWall x = Check.laid("b9,3;b0,5;f0,9,0,2;f1,3,1,9;");
        x.pass(1);
        x.keep();
        CHECK.due("UNDONE beside KEPT", x.count(6), 1);
        x.down(0);
        CHECK.due("undo beside KEPT", x.undo(), 1);
        CHECK.due("KEPT beside undo", x.count(7), 1);
        CHECK.due("back", x.back(), 0);
        CHECK.due("nothing is UNDONE", x.count(6), 0);
        CHECK.due("undo", x.undo(), NO);
        x.pass(1);
        CHECK.due("back to none", x.back(), NO);
        CHECK.due("UNDONE stays then", x.undo(), 0);
    }

    private static void counting() {
        ButtressWall x = Check.laid("b9,0;b9,5;b9,9;f0,9,1,9;f1,20,2,9;f1,3,0,9;d2;");
        x.pass(1);
        x.pass(1);
        x.down(0);
        x.keep();
        x.write('b');
        int[] want = {3, 3, 2, 1, 1, 1, 3, 1, 47};
        for (int what = 0; what < 9; what++) {
            CHECK.due("count(" + what + ")", x.count(what), want[what]);
        }
        for (int what : new int[] {-1, 9, Integer.MIN_VALUE, Integer.MAX_VALUE}) {
            CHECK.due("count(" + what + ")", x.count(what), BAD);
        }
    }
}
