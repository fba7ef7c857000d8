/** Promise 9, pass: 1 to 24 HOURS, in which knees tire and rest, BAYS fall, and BUTTRESSES come DOWN. */
public final class Promise09Pass {
    private static final String FIVE = "b0,0;b0,0;b0,0;b0,0;b0,0;";

    public static void main(String[] args) {
        Bounds.tryAll(Promise09Pass.class);
    }

    private static String tired(String text) {
        ButtressWall x = Check.laid(text);
        x.pass(1);
        return Check.buttresses(x, 4);
    }

    static void oneHourIsTheLeast(Bounds due) {
        due.is("pass(1)", Check.laid("b0,0;").pass(1), 1);
        due.refused("pass(0)", Told::lived, x -> x.pass(0), Bounds.BAD);
        due.refused("pass(-1)", Told::lived, x -> x.pass(-1), Bounds.BAD);
    }

    static void hours24AreTheMost(Bounds due) {
        due.is("pass(24)", Check.laid("b0,0;").pass(24), 24);
        due.refused("pass(25)", Told::lived, x -> x.pass(25), Bounds.BAD);
    }

    static void numbersFarOutsideAreBad(Bounds due) {
        for (int far : Bounds.FAR) {
            due.refused("pass(" + far + ")", Told::livedLong, x -> x.pass(far), Bounds.BAD);
        }
    }

    static void hoursAreCountedInAll(Bounds due) {
        ButtressWall x = Check.laid("b0,0;");
        due.is("pass(24)", x.pass(24), 24);
        due.is("pass(1)", x.pass(1), 25);
        due.is("pass(24)", x.pass(24), 49);
        due.is("hours", x.count(2), 49);
        x.undo();
        due.is("pass(2) behind undo()", x.pass(2), 27);
    }

    static void theLastOf512CallsStillCounts(Bounds due) {
        ButtressWall x = new ButtressWall();
        for (int call = 1; call <= 511; call++) {
            due.is("pass(24), call " + call, x.pass(24), 24 * call);
        }
        due.is("undo(), call 512", x.undo(), 7);
    }

    static void manyHoursAreAsManyTimesOne(Bounds due) {
        ButtressWall x = new ButtressWall();
        ButtressWall y = new ButtressWall();
        x.pass(24);
        for (int i = 0; i < 24; i++) {
            y.pass(1);
        }
        due.same("24", Told.brief(x), Told.brief(y));
    }

    static void hoursGoByWhereNothingIsLeft(Bounds due) {
        ButtressWall x = Check.laid("b9,0;f0,1,0,9;");
        due.is("pass(2)", x.pass(2), 2);
        due.is("FALLEN", x.count(5), 1);
        due.is("pass(3)", x.pass(3), 5);
        due.is("TIRED", x.buttress(0, 4), 0);
        due.is("pass(1) without a BUTTRESS", Check.laid("b9,0;").pass(1), 1);
    }

    static void thoseUpTireBy1AnOldOneBy2(Bounds due) {
        due.same("TIRED", tired("b0,0;f0,1,0,9;f1,1,0,9;f2,1,0,9;f3,1,0,9;"), "1 1 2 1");
        due.same("an OLD one alone", tired("b0,0;f2,1,0,9;"), "2");
        due.same("a PLAIN one alone", tired("b0,0;f0,1,0,9;"), "1");
        due.same("a SHY one alone", tired("b0,0;f3,1,0,9;"), "1");
    }

    static void thoseDownRestBy2AnOldOneBy1(Bounds due) {
        ButtressWall x = Check.laid("b0,0;f0,1,0,30;f1,1,0,30;f2,1,0,30;f3,1,0,30;");
        x.pass(5);
        due.same("TIRED", Check.buttresses(x, 4), "5 5 10 5");
        for (int f = 0; f < 4; f++) {
            x.down(f);
        }
        x.pass(1);
        due.same("TIRED behind a rest", Check.buttresses(x, 4), "3 3 9 3");
        x.pass(1);
        due.same("TIRED behind two", Check.buttresses(x, 4), "1 1 8 1");
        x.pass(1);
        due.same("TIRED 0 at least", Check.buttresses(x, 4), "0 0 7 0");
    }

    static void aYoungOneTiresBy2IfNoOtherIsNear(Bounds due) {
        due.same("alone", tired(FIVE + "f1,1,2,9;"), "2");
        due.same("one at its BAY", tired(FIVE + "f1,1,2,9;f0,1,2,9;"), "1 1");
        due.same("one next to it, west", tired(FIVE + "f1,1,2,9;f0,1,1,9;"), "1 1");
        due.same("one next to it, east", tired(FIVE + "f1,1,2,9;f0,1,3,9;"), "1 1");
        due.same("one a BAY further, west", tired(FIVE + "f1,1,2,9;f0,1,0,9;"), "2 1");
        due.same("one a BAY further, east", tired(FIVE + "f1,1,2,9;f0,1,4,9;"), "2 1");
        due.same("one at the other end", tired(FIVE + "f1,1,0,9;f1,1,4,9;"), "2 2");
        due.same("one that is DOWN", tired(FIVE + "f1,1,2,9;f0,1,2,9;d1;"), "2 0");
        due.same("told behind the other", tired(FIVE + "f0,1,3,9;f1,1,2,9;"), "1 1");
        due.same("two young ones", tired(FIVE + "f1,1,2,9;f1,1,3,9;"), "1 1");
    }

    static void aYoungOneTiresByWhoIsUpAheadOfTheHour(Bounds due) {
        ButtressWall x = Check.laid("b0,0;f1,1,0,30;f0,1,0,1;");
        x.pass(2);
        due.same("the other comes DOWN behind the second hour", Check.buttresses(x, 4), "2 2");
        due.same("UP", Check.buttresses(x, 5), "1 0");
        x.pass(1);
        due.same("it is DOWN ahead of the third", Check.buttresses(x, 4), "4 0");
    }

    static void asTiredAsLOneStaysUp(Bounds due) {
        for (int bears : new int[] {1, 2, 29, 30}) {
            ButtressWall x = Check.laid("b0,0;f0,1,0," + bears + ";");
            for (int hour = 1; hour <= bears; hour++) {
                x.pass(1);
            }
            due.is("TIRED by " + bears, x.buttress(0, 4), bears);
            due.is("UP by " + bears, x.buttress(0, 5), 1);
            x.pass(1);
            due.is("TIRED by more than " + bears, x.buttress(0, 4), bears + 1);
            due.is("UP by more than " + bears, x.buttress(0, 5), 0);
        }
    }

    static void anOldOneComesDownAboveL(Bounds due) {
        ButtressWall x = Check.laid("b0,0;f2,1,0,3;f2,1,0,4;f2,1,0,1;");
        x.pass(1);
        due.same("UP behind 1", Check.buttresses(x, 5), "1 1 0");
        x.pass(1);
        due.same("UP behind 2", Check.buttresses(x, 5), "0 1 0");
        x.pass(1);
        due.same("UP behind 3", Check.buttresses(x, 5), "0 0 0");
    }

    static void aShyOneComesNotDownInAnHourWithCarts(Bounds due) {
        ButtressWall x = Check.laid("b0,0;f3,1,0,1;f0,1,0,1;f1,1,0,1;f2,1,0,2;c0;c1;c1;c0;");
        x.pass(2);
        due.same("UP behind hour 1, CARTS", Check.buttresses(x, 5), "1 0 0 0");
        x.pass(1);
        due.is("UP behind hour 2, CARTS", x.buttress(0, 5), 1);
        due.is("TIRED", x.buttress(0, 4), 3);
        x.pass(1);
        due.is("UP behind hour 3, none", x.buttress(0, 5), 0);
        due.is("TIRED", x.buttress(0, 4), 4);
    }

    static void cartsAreThoseOfTheHourThatGoesBy(Bounds due) {
        ButtressWall x = Check.laid("b0,0;f3,1,0,1;c0;c0;c1;");
        x.pass(2);
        due.is("none in hour 1, CARTS in hour 2", x.buttress(0, 5), 0);
        ButtressWall y = Check.laid("b0,0;f3,1,0,1;c0;c1;c0;");
        y.pass(2);
        due.is("CARTS in hour 1, none in hour 2", y.buttress(0, 5), 1);
    }

    static void cartsBeginAgainBehindTheLastHour(Bounds due) {
        ButtressWall x = Check.laid("b0,0;f3,1,0,1;c1;c0;");
        x.pass(1);
        due.is("UP behind hour 0", x.buttress(0, 5), 1);
        ButtressWall y = Check.laid("b0,0;f3,1,0,2;c1;c0;");
        y.pass(3);
        due.is("UP behind hour 2, as hour 0", y.buttress(0, 5), 1);
        y.pass(1);
        due.is("DOWN behind hour 3, as hour 1", y.buttress(0, 5), 0);
    }

    static void unheldAreHoursWithoutABreak(Bounds due) {
        ButtressWall x = Check.laid("b10,2;f0,10,0,30;");
        x.down(0);
        x.pass(2);
        due.is("unheld", x.bay(0, 5), 2);
        x.up(0);
        due.is("unheld still", x.bay(0, 5), 2);
        x.pass(1);
        due.is("unheld for none", x.bay(0, 5), 0);
        x.down(0);
        x.pass(2);
        due.is("unheld anew", x.bay(0, 5), 2);
        due.is("FALLEN", x.bay(0, 6), 0);
        x.pass(1);
        due.is("FALLEN behind more", x.bay(0, 6), 1);
    }

    static void itFallsBehindMoreThanH(Bounds due) {
        ButtressWall x = Check.laid("b10,0;b10,1;b10,20;");
        x.pass(1);
        due.same("behind 1", Check.bays(x, 6), "1 0 0");
        x.pass(1);
        due.same("behind 2", Check.bays(x, 6), "1 1 0");
        x.pass(18);
        due.same("behind 20", Check.bays(x, 6), "1 1 0");
        x.pass(1);
        due.same("behind 21", Check.bays(x, 6), "1 1 1");
    }

    static void bothOfTwoFallInOneHour(Bounds due) {
        ButtressWall x = Check.laid("b10,1;b0,9;b10,1;");
        x.pass(2);
        due.same("FALLEN", Check.bays(x, 6), "1 0 1");
    }

    static void heldIsByHowThingsAreAheadOfTheHour(Bounds due) {
        ButtressWall x = Check.laid("b10,0;f0,10,0,1;");
        x.pass(2);
        due.is("DOWN behind it", x.buttress(0, 5), 0);
        due.is("HELD in it", x.bay(0, 5), 0);
        due.is("not FALLEN", x.bay(0, 6), 0);
        x.pass(1);
        due.is("FALLEN behind the next", x.bay(0, 6), 1);
    }

    static void whatFallsInAnHourLoadsTheNextHour(Bounds due) {
        ButtressWall x = Check.laid("b50,0;b10,0;f0,10,1,30;");
        x.pass(1);
        due.same("behind 1", Check.bays(x, 6), "1 0");
        due.is("unheld", x.bay(1, 5), 0);
        x.pass(1);
        due.same("behind 2", Check.bays(x, 6), "1 1");
    }

    static void allAtAFallenBayAreDown(Bounds due) {
        ButtressWall x = Check.laid("b90,0;b0,0;f0,1,0,9;f1,1,0,9;f2,1,0,9;f3,1,0,9;f0,99,1,9;c1;");
        x.pass(1);
        due.same("FALLEN", Check.bays(x, 6), "1 0");
        due.same("UP, a SHY one in CARTS neither", Check.buttresses(x, 5), "0 0 0 0 1");
        due.same("they had been UP", Check.buttresses(x, 4), "1 1 2 1 1");
        x.pass(1);
        due.same("they rest", Check.buttresses(x, 4), "0 0 1 0 2");
    }

    static void oneOfManyHoursIsUndoneWithAll(Bounds due) {
        ButtressWall x = Check.laid("b0,0;f0,1,0,30;");
        x.pass(1);
        x.pass(24);
        due.is("count(6)", x.count(6), 2);
        due.is("undo()", x.undo(), 1);
        due.is("hours", x.count(2), 1);
    }
}
