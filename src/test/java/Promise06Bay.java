/** Promise 6, bay: THRUST, H, LOAD, PROPS, HELD, unheld, FALLEN of a BAY. */
public final class Promise06Bay {
    public static void main(String[] args) {
        Bounds.tryAll(Promise06Bay.class);
    }

    private static ButtressWall behind(int hours, String text) {
        ButtressWall x = Check.laid(text);
        x.pass(hours);
        return x;
    }

    static void theFirstBayIs0(Bounds due) {
        due.is("bay(0, 0)", Told.lived().bay(0, 0), 9);
        due.refused("bay(-1, 0)", Told::lived, x -> x.bay(-1, 0), Bounds.BAD);
    }

    static void theLastBayIsOneLessThanThereAre(Bounds due) {
        due.is("bay(2, 0)", Told.lived().bay(2, 0), 8);
        due.refused("bay(3, 0)", Told::lived, x -> x.bay(3, 0), Bounds.BAD);
        ButtressWall x = Check.laid("b0,0;b1,0;b2,0;b3,0;b4,0;b5,0;b6,0;b7,0;");
        due.is("bay(7, 0) of eight", x.bay(7, 0), 7);
        due.is("bay(8, 0) of eight", x.bay(8, 0), Bounds.BAD);
        ButtressWall y = Check.laid("b5,0;");
        due.is("bay(0, 0) of one", y.bay(0, 0), 5);
        due.is("bay(1, 0) of one", y.bay(1, 0), Bounds.BAD);
    }

    static void whatIsFrom0To6(Bounds due) {
        due.is("bay(0, 0)", Told.lived().bay(0, 0), 9);
        due.is("bay(0, 6)", Told.lived().bay(0, 6), 0);
        due.refused("bay(0, -1)", Told::lived, x -> x.bay(0, -1), Bounds.BAD);
        due.refused("bay(0, 7)", Told::lived, x -> x.bay(0, 7), Bounds.BAD);
        due.is("bay(2, -1), FALLEN", Told.lived().bay(2, -1), Bounds.BAD);
        due.is("bay(2, 7), FALLEN", Told.lived().bay(2, 7), Bounds.BAD);
    }

    static void numbersFarOutsideAreBad(Bounds due) {
        for (int far : Bounds.FAR) {
            due.is("bay(" + far + ", 0)", Told.lived().bay(far, 0), Bounds.BAD);
            due.is("bay(0, " + far + ")", Told.lived().bay(0, far), Bounds.BAD);
            due.is("bay(" + far + ", " + far + ")", Told.lived().bay(far, far), Bounds.BAD);
        }
    }

    static void theLeastAndTheMostThatIsTold(Bounds due) {
        ButtressWall x = Check.laid("b0,0;b99,20;");
        due.same("THRUST", Check.bays(x, 0), "0 99");
        due.same("H", Check.bays(x, 1), "0 20");
        due.same("LOAD", Check.bays(x, 2), "0 99");
    }

    static void loadIsThrustWhereNothingHasFallen(Bounds due) {
        due.same("LOAD", Check.bays(Check.laid("b11,0;b50,9;b13,0;"), 2), "11 50 13");
    }

    static void loadHasHalfOfAFallenOneNextToItCut(Bounds due) {
        due.same("1", Check.bays(behind(1, "b7,9;b1,0;"), 2), "7 0");
        due.same("2", Check.bays(behind(1, "b7,9;b2,0;"), 2), "8 0");
        due.same("3", Check.bays(behind(1, "b7,9;b3,0;"), 2), "8 0");
        due.same("99", Check.bays(behind(1, "b99,0;b7,9;"), 2), "0 56");
    }

    static void loadCutsEachHalfByItself(Bounds due) {
        due.same("LOAD", Check.bays(behind(1, "b3,0;b10,20;b5,0;"), 2), "0 13 0");
    }

    static void loadOfTheEndsHasNothingFromTheOtherEnd(Bounds due) {
        due.same("west", Check.bays(behind(1, "b10,9;b0,9;b50,0;"), 2), "10 25 0");
        due.same("east", Check.bays(behind(1, "b50,0;b0,9;b10,9;"), 2), "0 25 10");
        due.same("eight", Check.bays(behind(1, "b90,0;b0,9;b1,9;b1,9;b1,9;b1,9;b0,9;b80,0;"), 2), "0 45 1 1 1 1 40 0");
    }

    static void loadHasThrustOfTheFallenNotItsLoad(Bounds due) {
        ButtressWall x = behind(1, "b40,0;b10,0;b7,9;f0,10,1,9;");
        due.same("LOAD beside the first", Check.bays(x, 2), "0 30 7");
        x.pass(1);
        due.same("LOAD beside the second", Check.bays(x, 2), "0 0 12");
    }

    static void propsAreOfThoseUpAtIt(Bounds due) {
        ButtressWall x = Check.laid("b50,9;b50,9;f0,5,0,9;f1,6,0,9;f2,7,1,9;f3,8,0,9;d1;");
        due.same("PROPS", Check.bays(x, 3), "13 7");
        x.up(1);
        due.same("PROPS of all", Check.bays(x, 3), "19 7");
    }

    static void propsOfNoneAre0(Bounds due) {
        due.same("PROPS", Check.bays(Check.laid("b0,0;b9,0;"), 3), "0 0");
        due.same("PROPS of one that is DOWN", Check.bays(Check.laid("b0,0;b9,0;f0,50,0,9;d0;"), 3), "0 0");
    }

    static void propsHaveHalfOfWhatIsMoreNextToItCut(Bounds due) {
        due.same("0 more", Check.bays(Check.laid("b10,9;b9,9;f0,10,0,9;"), 3), "10 0");
        due.same("1 more", Check.bays(Check.laid("b10,9;b9,9;f0,11,0,9;"), 3), "11 0");
        due.same("2 more", Check.bays(Check.laid("b10,9;b9,9;f0,12,0,9;"), 3), "12 1");
        due.same("5 more", Check.bays(Check.laid("b10,9;b9,9;f0,15,0,9;"), 3), "15 2");
        due.same("99 more", Check.bays(Check.laid("b10,9;b0,9;f0,99,1,9;"), 3), "49 99");
    }

    static void propsHaveNothingWhereItIsLess(Bounds due) {
        due.same("1 less", Check.bays(Check.laid("b10,9;b9,9;f0,9,0,9;f0,5,1,9;"), 3), "9 5");
        due.same("99 less", Check.bays(Check.laid("b99,9;b9,9;b99,9;f0,5,1,9;"), 3), "0 5 0");
    }

    static void propsCutEachHalfByItself(Bounds due) {
        due.same("PROPS", Check.bays(Check.laid("b10,9;b9,9;b10,9;f0,13,0,9;f0,15,2,9;"), 3), "13 3 15");
    }

    static void propsOfTheEndsHaveNothingFromTheOtherEnd(Bounds due) {
        due.same("west", Check.bays(Check.laid("b0,9;b99,9;b0,9;f0,10,2,9;"), 3), "0 5 10");
        due.same("east", Check.bays(Check.laid("b0,9;b99,9;b0,9;f0,10,0,9;"), 3), "10 5 0");
    }

    static void propsAreNotHandedOn(Bounds due) {
        due.same("PROPS", Check.bays(Check.laid("b0,9;b0,9;b0,9;f0,80,0,9;"), 3), "80 40 0");
    }

    static void whatIsMoreIsMoreThanLoadNotThanThrust(Bounds due) {
        ButtressWall x = behind(1, "b20,0;b10,9;b5,9;f0,30,1,9;");
        due.same("FALLEN", Check.bays(x, 6), "1 0 0");
        due.same("LOAD", Check.bays(x, 2), "0 20 5");
        due.same("PROPS", Check.bays(x, 3), "0 30 5");
    }

    static void heldByAsMuchAsLoad(Bounds due) {
        due.is("as much", Check.laid("b10,0;f0,10,0,9;").bay(0, 4), 1);
        due.is("one less", Check.laid("b10,0;f0,9,0,9;").bay(0, 4), 0);
        due.is("one more", Check.laid("b10,0;f0,11,0,9;").bay(0, 4), 1);
        due.is("as much by the one next to it", Check.laid("b10,0;b10,0;f0,30,1,9;").bay(0, 4), 1);
        due.is("one less by the one next to it", Check.laid("b10,0;b10,0;f0,29,1,9;").bay(0, 4), 0);
    }

    static void withoutThrustItIsHeldByNone(Bounds due) {
        due.is("THRUST 0", Check.laid("b0,0;").bay(0, 4), 1);
        due.is("THRUST 1", Check.laid("b1,0;").bay(0, 4), 0);
    }

    static void unheldForNoHourYet(Bounds due) {
        ButtressWall x = Check.laid("b10,2;");
        due.is("HELD", x.bay(0, 4), 0);
        due.is("unheld", x.bay(0, 5), 0);
    }

    static void unheldForHItStandsBehindMoreItFalls(Bounds due) {
        for (int h : new int[] {0, 1, 2, 19, 20}) {
            ButtressWall x = Check.laid("b10," + h + ";");
            for (int hour = 1; hour <= h; hour++) {
                x.pass(1);
                due.is("unheld behind " + hour + " of " + h, x.bay(0, 5), hour);
                due.is("FALLEN behind " + hour + " of " + h, x.bay(0, 6), 0);
            }
            x.pass(1);
            due.is("FALLEN behind more than " + h, x.bay(0, 6), 1);
        }
    }

    static void fallenItHasNoLoadPropsHeldUnheld(Bounds due) {
        ButtressWall x = Check.laid("b10,2;b0,20;f0,3,0,9;f0,50,1,9;d1;");
        x.pass(3);
        x.up(1);
        int[] want = {10, 2, 0, 0, 0, 0, 1};
        for (int what = 0; what <= 6; what++) {
            due.is("bay(0, " + what + ")", x.bay(0, what), want[what]);
        }
        x.pass(24);
        for (int what = 0; what <= 6; what++) {
            due.is("bay(0, " + what + ") a day later", x.bay(0, what), want[what]);
        }
    }

    static void askingChangesNothing(Bounds due) {
        for (int what = 0; what <= 6; what++) {
            int asked = what;
            due.changesNothing("bay(1, " + what + ")", Told::lived, x -> x.bay(1, asked));
        }
    }
}
