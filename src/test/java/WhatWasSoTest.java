/** Promises 20 and 21: who, knees. */
public final class WhatWasSoTest {
    private static final Check CHECK = new Check();
    private static final int NO = ButtressWall.NO, BAD = ButtressWall.BAD, NONE = ButtressWall.NONE;

    public static void main(String[] args) {
        who();
        whoBesideTheFallen();
        wrongWho();
        knees();
        kneesOfTheTired();
        kneesByCarts();
        kneesWhereItFalls();
        wrongKnees();
        CHECK.end();
    }

    private static void who() {
        ButtressWall x = Check.laid("b10,0;b10,0;f0,10,0,9;f0,10,1,9;f0,30,0,9;d0;");
        int[] sets = {1, 1, 1, 5};
        int[] lowest = {0, 1, 2, 3};
        for (int bays = 0; bays < 4; bays++) {
            CHECK.due("who(" + bays + ", 0)", x.who(bays, 0), sets[bays]);
            CHECK.due("who(" + bays + ", 1)", x.who(bays, 1), lowest[bays]);
        }
        ButtressWall y = Check.laid("b10,0;b10,0;f0,30,0,9;");
        CHECK.due("who(2, 0), no set", y.who(2, 0), 0);
        CHECK.due("who(2, 1), no set", y.who(2, 1), NONE);
        ButtressWall z = Check.laid("b0,0;b1,0;");
        CHECK.due("who(1, 0) without any", z.who(1, 0), 1);
        CHECK.due("who(1, 1) without any", z.who(1, 1), 0);
        CHECK.due("who(0, 1) without any", z.who(0, 1), NONE);
    }

    private static void whoBesideTheFallen() {
        ButtressWall x = Check.laid("b5,0;b4,9;f0,9,0,9;f0,9,1,9;d1;d0;");
        x.pass(1);
        CHECK.due("FALLEN", x.bay(0, 6), 1);
        CHECK.due("who(0, 0)", x.who(0, 0), 1);
        CHECK.due("who(2, 0)", x.who(2, 0), 1);
        CHECK.due("who(2, 1)", x.who(2, 1), 2);
        CHECK.due("who(1, 0), FALLEN", x.who(1, 0), 0);
        CHECK.due("who(3, 1), FALLEN", x.who(3, 1), NONE);
    }

    private static void wrongWho() {
        ButtressWall x = Check.laid("b10,0;b10,0;f0,10,0,9;");
        for (int bays : new int[] {-1, 4, 255, Integer.MIN_VALUE, Integer.MAX_VALUE}) {
            CHECK.due("who(" + bays + ", 0)", x.who(bays, 0), BAD);
        }
        for (int what : new int[] {-1, 2, Integer.MIN_VALUE, Integer.MAX_VALUE}) {
            CHECK.due("who(0, " + what + ")", x.who(0, what), BAD);
        }
        ButtressWall y = Check.laid("b0,0;".repeat(8));
        CHECK.due("who(255, 0) of eight", y.who(255, 0), 1);
        CHECK.due("who(256, 0) of eight", y.who(256, 0), BAD);
    }

    private static void knees() {
        ButtressWall x = Check.laid("b0,0;b0,0;b0,0;b0,0;b0,0;f0,5,0,1;f2,5,0,1;f1,5,4,30;");
        CHECK.due("knees(0, 1)", x.knees(0, 1), 0);
        CHECK.due("knees(0, 5)", x.knees(0, 5), 1 << 4);
        CHECK.due("knees(0, 31)", x.knees(0, 31), 1 << 30);
        CHECK.due("knees(0, 32)", x.knees(0, 32), 0);
        CHECK.due("knees(0, 40)", x.knees(0, 40), 0);
        CHECK.due("knees(1, 1), OLD", x.knees(1, 1), 1 << 1);
        CHECK.due("knees(1, 3), OLD", x.knees(1, 3), 1 << 4 | 1 << 5);
        CHECK.due("knees(1, 16), OLD", x.knees(1, 16), 1 << 30);
        CHECK.due("knees(2, 3), YOUNG", x.knees(2, 3), 1 << 4 | 1 << 5);
        CHECK.due("L stays", x.buttress(0, 3), 1);
        x.wipe();
        Check.write(x, "b1,1;b");
        CHECK.due("fault of another text", x.fault(), 5);
        CHECK.due("knees(1, 3) behind it", x.knees(1, 3), 1 << 4 | 1 << 5);
    }

    private static void kneesOfTheTired() {
        ButtressWall x = Check.laid("b0,0;f0,5,0,30;");
        x.pass(3);
        CHECK.due("knees(0, 1), TIRED", x.knees(0, 1), 1 << 1 | 1 << 2 | 1 << 3);
        CHECK.due("knees(0, 2), TIRED", x.knees(0, 2), 1 << 4);
    }

    private static void kneesByCarts() {
        ButtressWall x = Check.laid("b0,0;f3,5,0,30;c1;c1;c0;");
        CHECK.due("knees(0, 1), CARTS", x.knees(0, 1), 0);
        CHECK.due("knees(0, 2), CARTS", x.knees(0, 2), 0);
        CHECK.due("knees(0, 3), no CARTS", x.knees(0, 3), 1 << 1 | 1 << 2);
        CHECK.due("knees(0, 6), no CARTS", x.knees(0, 6), 1 << 3 | 1 << 4 | 1 << 5);
        ButtressWall y = Check.laid("b0,0;f3,5,0,30;c1;c0;c0;c0;c0;c0;c0;c0;c0;c0;c0;c1;");
        CHECK.due("knees(0, 38)", y.knees(0, 38), 0);
        ButtressWall z = Check.laid("b0,0;f3,5,0,30;c1;c1;c1;c0;c1;c1;c1;c1;c1;c1;c1;c1;");
        CHECK.due("knees(0, 40), the last hour", z.knees(0, 40), 1 << 28 | 1 << 29 | 1 << 30);
    }

    private static void kneesWhereItFalls() {
        ButtressWall x = Check.laid("b10,2;f0,5,0,30;");
        CHECK.due("knees(0, 2), unheld", x.knees(0, 2), 1 << 1);
        CHECK.due("knees(0, 3), FALLEN", x.knees(0, 3), 0);
        CHECK.due("knees(0, 4), FALLEN", x.knees(0, 4), 0);
        ButtressWall y = Check.laid("b0,0;b10,2;f0,5,0,30;");
        CHECK.due("knees(0, 4), another FALLEN", y.knees(0, 4), 1 << 3);
    }

    private static void wrongKnees() {
        ButtressWall x = Check.laid("b0,0;f0,5,0,30;f0,5,0,30;d1;");
        CHECK.due("knees(1, 1), DOWN", x.knees(1, 1), NO);
        CHECK.due("knees(1, 41), DOWN", x.knees(1, 41), BAD);
        for (int f : new int[] {-1, 2, 6, Integer.MIN_VALUE, Integer.MAX_VALUE}) {
            CHECK.due("knees(" + f + ", 1)", x.knees(f, 1), BAD);
        }
        for (int n : new int[] {0, 41, -1, Integer.MIN_VALUE, Integer.MAX_VALUE}) {
            CHECK.due("knees(0, " + n + ")", x.knees(0, n), BAD);
        }
    }
}
