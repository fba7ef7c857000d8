/** Promises 1 to 8: a new object, write, wipe, fault, lay, bay, buttress, carts. */
public final class WallsTest {
    private static final Check CHECK = new Check();

    public static void main(String[] args) {
        newObject();
        writing();
        wiping();
        faultsOfForm();
        faultsOfNumbers();
        faultsOfOrder();
        faultsOfTooMany();
        laying();
        layingAnew();
        layingTwice();
        refusedLaying();
        bays();
        loads();
        props();
        unheldAndFallen();
        buttresses();
        carts();
        CHECK.end();
    }

    private static void newObject() {
        ButtressWall x = new ButtressWall();
        CHECK.same("new: THRUST", Check.bays(x, 0), "20 35 40 30 15");
        CHECK.same("new: H", Check.bays(x, 1), "3 2 2 4 6");
        CHECK.same("new: unheld", Check.bays(x, 5), "0 0 0 0 0");
        CHECK.same("new: FALLEN", Check.bays(x, 6), "0 0 0 0 0");
        CHECK.same("new: KIND", Check.buttresses(x, 0), "0 1 2 3 0 2");
        CHECK.same("new: STRENGTH", Check.buttresses(x, 1), "25 15 30 20 18 22");
        CHECK.same("new: BAY", Check.buttresses(x, 2), "1 0 2 3 4 1");
        CHECK.same("new: L", Check.buttresses(x, 3), "10 6 8 12 9 7");
        CHECK.same("new: TIRED", Check.buttresses(x, 4), "0 0 0 0 0 0");
        CHECK.same("new: UP", Check.buttresses(x, 5), "1 1 1 1 0 1");
        CHECK.due("new: text", x.count(8), 0);
        CHECK.due("new: undo", x.undo(), ButtressWall.NO);
        CHECK.due("new: back", x.back(), ButtressWall.NO);
        CHECK.due("new: fault", x.fault(), ButtressWall.NONE);
        CHECK.due("new: lay", x.lay(), ButtressWall.NO);
        CHECK.due("new: hour", x.count(2), 0);
    }

    private static void writing() {
        ButtressWall x = new ButtressWall();
        for (int letter : new int[] {31, 127, 0, -1, 128, 256 + 'b', Integer.MIN_VALUE, Integer.MAX_VALUE}) {
            CHECK.due("write(" + letter + ")", x.write(letter), ButtressWall.BAD);
        }
        CHECK.due("count(8)", x.count(8), 0);
        CHECK.due("write(32)", x.write(32), 1);
        CHECK.due("write(126)", x.write(126), 2);
        for (int length = 3; length <= 200; length++) {
            CHECK.due("write to " + length, x.write('c'), length);
        }
        CHECK.due("write to a full text", x.write('c'), ButtressWall.FULL);
        CHECK.due("write BAD to a full text", x.write(127), ButtressWall.BAD);
        CHECK.due("count(8) full", x.count(8), 200);
    }

    private static void wiping() {
        ButtressWall x = Check.laid("b7,1;c1;");
        CHECK.due("wipe", x.wipe(), 8);
        CHECK.due("wipe again", x.wipe(), 0);
        CHECK.due("wiped: text", x.count(8), 0);
        CHECK.due("wiped: the wall stays", x.bay(0, 0), 7);
        CHECK.due("wiped: fault", x.fault(), ButtressWall.NONE);
        CHECK.due("wiped: write", x.write('b'), 1);
        CHECK.due("wiped: fault of the new text", x.fault(), 0);
    }

    private static void fault(String text, int place) {
        ButtressWall x = new ButtressWall();
        Check.write(x, text);
        CHECK.due("fault of " + text, x.fault(), place);
        CHECK.due("fault again of " + text, x.fault(), place);
        CHECK.due("laid by fault of " + text, x.bay(4, 0), 15);
    }

    private static void faultsOfForm() {
        fault("", ButtressWall.NONE);
        fault("b1,1;", ButtressWall.NONE);
        fault("b01,09;", ButtressWall.NONE);
        fault("b1,1", 0);
        fault("b", 0);
        fault("b;", 0);
        fault("b1,1;b", 5);
        fault("b1,1;b2,", 5);
        fault("b1,1;b2,2", 5);
        fault("b1,1;x0;", 5);
        fault("b1,1;B1,1;", 5);
        fault("b1,1;;", 5);
        fault("b1,1; b1,1;", 5);
        fault(" b1,1;", 0);
        fault("b 1,1;", 0);
        fault("b1 ,1;", 0);
        fault("b-1,1;", 0);
        fault("b+1,1;", 0);
        fault("b1,;", 0);
        fault("b,1;", 0);
        fault("b1;", 0);
        fault("b1,1,1;", 0);
        fault("b1,1,;", 0);
        fault("b1;1,", 0);
        fault("b1:1;", 0);
        fault("b1/1;", 0);
        fault("b001,1;", 0);
        fault("b1,001;", 0);
        fault("c;", 0);
        fault("c00;c01;", ButtressWall.NONE);
        fault("c001;", 0);
        fault("c0,0;", 0);
        fault("b1,1;f0,1,0;", 5);
        fault("b1,1;f0,1,0,1,1;", 5);
        fault("b1,1;f00,01,00,01;d00;", ButtressWall.NONE);
        fault("b1,1;f0,1,0,1;d0,0;", 14);
        fault("b1,1;f0,1,0,1;d;", 14);
    }

    private static void faultsOfNumbers() {
        fault("b0,0;b99,20;", ButtressWall.NONE);
        fault("b100,1;", 0);
        fault("b1,1;b1,21;", 5);
        fault("b1,1;f3,99,0,30;", ButtressWall.NONE);
        fault("b1,1;f0,1,0,1;", ButtressWall.NONE);
        fault("b1,1;f4,1,0,1;", 5);
        fault("b1,1;f0,0,0,1;", 5);
        fault("b1,1;f0,1,1,1;", 5);
        fault("b1,1;f0,1,0,0;", 5);
        fault("b1,1;f0,1,0,31;", 5);
        fault("c1;c0;", ButtressWall.NONE);
        fault("c1;c2;", 3);
        fault("c1;c10;", 3);
    }

    private static void faultsOfOrder() {
        fault("f0,1,0,1;", 0);
        fault("f0,1,0,1;b1,1;", 0);
        fault("b1,1;f0,1,1,1;b1,1;", 5);
        fault("c1;b1,1;f0,1,0,1;b1,1;f0,1,1,1;c0;d1;b2,2;", ButtressWall.NONE);
        fault("d0;", 0);
        fault("b1,1;d0;f0,1,0,1;", 5);
        fault("b1,1;f0,1,0,1;d1;", 14);
        fault("b1,1;f0,1,0,1;d0;d0;", ButtressWall.NONE);
        fault("b1,1;c2;b1,99;", 5);
    }

    private static void faultsOfTooMany() {
        fault("b1,1;".repeat(8), ButtressWall.NONE);
        fault("b1,1;".repeat(9), 40);
        fault("b1,1;" + "f0,1,0,1;".repeat(6), ButtressWall.NONE);
        fault("b1,1;" + "f0,1,0,1;".repeat(7), 59);
        fault("c1;".repeat(12), ButtressWall.NONE);
        fault("c1;".repeat(13), 36);
        fault("b1,1;f0,1,0,1;" + "d0;".repeat(62), ButtressWall.NONE);
        fault("b1,1;c1;f0,1,0,1;" + "d0;".repeat(61), ButtressWall.NONE);
        fault("c1;b01,1;f0,1,0,1;" + "d0;".repeat(60) + "d0", 198);
    }

    private static void laying() {
        ButtressWall x = new ButtressWall();
        Check.write(x, "b9,1;b8,20;f3,7,1,30;f1,1,0,1;c0;c1;d0;d0;");
        CHECK.due("lay", x.lay(), 2);
        CHECK.due("lay: BAYS", x.count(0), 2);
        CHECK.due("lay: BUTTRESSES", x.count(1), 2);
        CHECK.due("lay: UP", x.count(3), 1);
        CHECK.due("lay: the text stays", x.count(8), 42);
        CHECK.same("lay: THRUST", Check.bays(x, 0), "9 8");
        CHECK.same("lay: H", Check.bays(x, 1), "1 20");
        CHECK.same("lay: KIND", Check.buttresses(x, 0), "3 1");
        CHECK.same("lay: STRENGTH", Check.buttresses(x, 1), "7 1");
        CHECK.same("lay: BAY", Check.buttresses(x, 2), "1 0");
        CHECK.same("lay: L", Check.buttresses(x, 3), "30 1");
        CHECK.same("lay: UP", Check.buttresses(x, 5), "0 1");
        CHECK.due("carts(0)", x.carts(0), 0);
        CHECK.due("carts(1)", x.carts(1), 1);
    }

    private static void layingAnew() {
        ButtressWall x = Check.laid("b9,1;b8,20;f0,7,1,30;f1,9,0,30;d0;");
        x.send(0, 0);
        x.down(1);
        x.pass(5);
        x.keep();
        CHECK.due("ahead: FALLEN", x.count(5), 1);
        CHECK.due("lay anew", x.lay(), 2);
        CHECK.due("lay anew: hour", x.count(2), 0);
        CHECK.due("lay anew: FALLEN", x.count(5), 0);
        CHECK.due("lay anew: UNDONE", x.count(6), 0);
        CHECK.due("lay anew: KEPT", x.count(7), 0);
        CHECK.due("lay anew: undo", x.undo(), ButtressWall.NO);
        CHECK.due("lay anew: back", x.back(), ButtressWall.NO);
        CHECK.same("lay anew: unheld", Check.bays(x, 5), "0 0");
        CHECK.same("lay anew: BAY", Check.buttresses(x, 2), "1 0");
        CHECK.same("lay anew: TIRED", Check.buttresses(x, 4), "0 0");
        CHECK.same("lay anew: UP", Check.buttresses(x, 5), "0 1");
        x.wipe();
        Check.write(x, "b1,1;");
        CHECK.due("lay a smaller one", x.lay(), 1);
        CHECK.due("no BUTTRESSES", x.count(1), 0);
        CHECK.due("no UP", x.count(3), 0);
        CHECK.due("no CARTS", x.carts(1), 0);
        CHECK.due("buttress(0, 0)", x.buttress(0, 0), ButtressWall.BAD);
        CHECK.due("bay(1, 0)", x.bay(1, 0), ButtressWall.BAD);
    }

    /** What is told once is not told for those that are laid behind it. */
    private static void layingTwice() {
        ButtressWall x = Check.laid("b0,0;b9,9;f0,1,1,9;f2,1,0,9;c1;c1;d0;d1;");
        x.wipe();
        Check.write(x, "b0,0;f0,1,0,9;c0;c0;");
        for (int i = 0; i < 3; i++) {
            CHECK.due("lay " + i, x.lay(), 1);
            CHECK.due("BUTTRESSES " + i, x.count(1), 1);
            CHECK.due("CARTS " + i, x.carts(0) + x.carts(1), 0);
            CHECK.same("UP " + i, Check.buttresses(x, 5), "1");
            CHECK.same("TIRED " + i, Check.buttresses(x, 4), "0");
            x.pass(5);
            CHECK.same("TIRED behind 5 " + i, Check.buttresses(x, 4), "5");
        }
    }

    private static void refusedLaying() {
        for (String text : new String[] {"", "c1;", "c1", "b1,1;c2;", "b1,1;f0,1,1,1;", "b1,1"}) {
            ButtressWall x = new ButtressWall();
            x.pass(1);
            x.keep();
            x.down(0);
            Check.write(x, text);
            CHECK.due("lay of " + text, x.lay(), ButtressWall.NO);
            CHECK.due("hour behind " + text, x.count(2), 1);
            CHECK.due("UNDONE behind " + text, x.count(6), 2);
            CHECK.due("KEPT behind " + text, x.count(7), 1);
            CHECK.due("letters behind " + text, x.count(8), text.length());
            CHECK.same("THRUST behind " + text, Check.bays(x, 0), "20 35 40 30 15");
            CHECK.same("UP behind " + text, Check.buttresses(x, 5), "0 1 1 1 0 1");
        }
    }

    private static void bays() {
        ButtressWall x = Check.laid("b10,5;b20,4;");
        for (int what : new int[] {-1, 7, Integer.MIN_VALUE, Integer.MAX_VALUE}) {
            CHECK.due("bay(0, " + what + ")", x.bay(0, what), ButtressWall.BAD);
        }
        for (int b : new int[] {-1, 2, 8, Integer.MIN_VALUE, Integer.MAX_VALUE}) {
            CHECK.due("bay(" + b + ", 0)", x.bay(b, 0), ButtressWall.BAD);
        }
        CHECK.same("THRUST", Check.bays(x, 0), "10 20");
        CHECK.same("H", Check.bays(x, 1), "5 4");
    }

    private static void loads() {
        ButtressWall x = Check.laid("b11,0;b50,9;b13,0;b7,9;");
        CHECK.same("LOAD at first", Check.bays(x, 2), "11 50 13 7");
        x.pass(1);
        CHECK.same("FALLEN next to others", Check.bays(x, 6), "1 0 1 0");
        CHECK.same("LOAD by the FALLEN", Check.bays(x, 2), "0 61 0 13");
        CHECK.same("PROPS of none", Check.bays(x, 3), "0 0 0 0");
    }

    private static void props() {
        ButtressWall x = Check.laid("b10,5;b20,5;b10,0;b0,9;f0,15,0,9;f0,4,1,9;f0,6,2,9;f0,11,2,9;f0,20,3,9;");
        CHECK.same("PROPS", Check.bays(x, 3), "15 9 27 23");
        CHECK.same("HELD", Check.bays(x, 4), "1 0 1 1");
        CHECK.due("HELD in all", x.count(4), 3);
        x.down(3);
        CHECK.same("PROPS without one", Check.bays(x, 3), "15 6 16 20");
        x.down(2);
        x.down(4);
        x.pass(1);
        CHECK.same("FALLEN", Check.bays(x, 6), "0 0 1 0");
        x.up(4);
        CHECK.same("LOAD beside the FALLEN", Check.bays(x, 2), "10 25 0 5");
        CHECK.same("PROPS beside the FALLEN", Check.bays(x, 3), "15 6 0 20");
        ButtressWall y = Check.laid("b10,5;f0,10,0,9;f0,9,0,9;");
        y.down(1);
        CHECK.due("as much PROPS as LOAD", y.bay(0, 4), 1);
        y.up(1);
        y.down(0);
        CHECK.due("one less than LOAD", y.bay(0, 4), 0);
    }

    private static void unheldAndFallen() {
        ButtressWall x = Check.laid("b10,2;b0,0;f0,3,0,9;");
        x.pass(2);
        CHECK.same("unheld for H", Check.bays(x, 5), "2 0");
        CHECK.due("not FALLEN yet", x.bay(0, 6), 0);
        CHECK.due("PROPS", x.bay(0, 3), 3);
        x.pass(1);
        CHECK.due("FALLEN", x.bay(0, 6), 1);
        for (int what = 2; what <= 5; what++) {
            CHECK.due("bay(0, " + what + ") FALLEN", x.bay(0, what), 0);
        }
        CHECK.due("THRUST, FALLEN", x.bay(0, 0), 10);
        CHECK.due("H, FALLEN", x.bay(0, 1), 2);
    }

    private static void buttresses() {
        ButtressWall x = Check.laid("b0,5;b0,4;f2,33,1,17;f3,44,0,8;d1;");
        for (int what : new int[] {-1, 6, Integer.MIN_VALUE, Integer.MAX_VALUE}) {
            CHECK.due("buttress(0, " + what + ")", x.buttress(0, what), ButtressWall.BAD);
        }
        for (int f : new int[] {-1, 2, 6, Integer.MIN_VALUE, Integer.MAX_VALUE}) {
            CHECK.due("buttress(" + f + ", 0)", x.buttress(f, 0), ButtressWall.BAD);
        }
        int[] want = {2, 33, 1, 17, 6, 1};
        x.pass(3);
        for (int what = 0; what < 6; what++) {
            CHECK.due("buttress(0, " + what + ")", x.buttress(0, what), want[what]);
        }
        x.send(1, 1);
        CHECK.due("BAY of the SENT", x.buttress(1, 2), 1);
        CHECK.due("UP of the DOWN", x.buttress(1, 5), 0);
    }

    private static void carts() {
        ButtressWall x = Check.laid("b0,0;c1;c0;c0;");
        for (int n : new int[] {-1, 100, Integer.MIN_VALUE, Integer.MAX_VALUE}) {
            CHECK.due("carts(" + n + ")", x.carts(n), ButtressWall.BAD);
        }
        for (int n = 0; n < 100; n++) {
            CHECK.due("carts(" + n + ")", x.carts(n), n % 3 == 0 ? 1 : 0);
        }
        x.pass(2);
        CHECK.due("carts(0) in hour 2", x.carts(0), 0);
        CHECK.due("carts(1) in hour 2", x.carts(1), 1);
        ButtressWall y = Check.laid("b0,0;c0;c0;c0;c0;c0;c0;c0;c0;c0;c0;c0;c1;");
        for (int n = 0; n < 100; n++) {
            CHECK.due("carts(" + n + ") by twelve", y.carts(n), n % 12 == 11 ? 1 : 0);
        }
        ButtressWall z = Check.laid("b0,0;");
        CHECK.due("carts(0) without", z.carts(0), 0);
        CHECK.due("carts(99) without", z.carts(99), 0);
    }
}
