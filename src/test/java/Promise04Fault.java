/** Promise 4, fault: the place (0 first) of the first letter of the first ITEM that is not so. */
public final class Promise04Fault {
    private static final int NONE = Bounds.NONE;
    private static final String BAY = "b1,1;", BUTTRESS = "f0,1,0,1;";

    public static void main(String[] args) {
        Bounds.tryAll(Promise04Fault.class);
    }

    private static void fault(Bounds due, String text, int place) {
        ButtressWall x = new ButtressWall();
        Check.write(x, text);
        due.is(text, x.fault(), place);
        due.is(text + " asked again", x.fault(), place);
        due.is(text + " to be laid", Math.min(x.lay(), 0), place == NONE && text.contains("b") ? 0 : Bounds.NO);
    }

    static void anEmptyTextHasNone(Bounds due) {
        fault(due, "", NONE);
    }

    static void thrustIsFrom0To99(Bounds due) {
        fault(due, "b0,1;", NONE);
        fault(due, "b99,1;", NONE);
        fault(due, "b100,1;", 0);
        fault(due, "b-1,1;", 0);
    }

    static void hoursUnheldAreFrom0To20(Bounds due) {
        fault(due, "b1,0;", NONE);
        fault(due, "b1,20;", NONE);
        fault(due, "b1,21;", 0);
        fault(due, "b1,99;", 0);
        fault(due, "b1,-1;", 0);
    }

    static void thereAre8BaysAtMost(Bounds due) {
        fault(due, BAY.repeat(8), NONE);
        fault(due, BAY.repeat(9), 40);
        fault(due, BAY.repeat(8) + "c1;" + BAY, 43);
    }

    static void kindsAreFrom0To3(Bounds due) {
        for (int kind = 0; kind <= 3; kind++) {
            fault(due, BAY + "f" + kind + ",1,0,1;", NONE);
        }
        fault(due, BAY + "f4,1,0,1;", 5);
        fault(due, BAY + "f99,1,0,1;", 5);
    }

    static void strengthIsFrom1To99(Bounds due) {
        fault(due, BAY + "f0,0,0,1;", 5);
        fault(due, BAY + "f0,00,0,1;", 5);
        fault(due, BAY + "f0,1,0,1;", NONE);
        fault(due, BAY + "f0,99,0,1;", NONE);
        fault(due, BAY + "f0,100,0,1;", 5);
    }

    static void theBayOfAButtressIsToldAhead(Bounds due) {
        fault(due, BUTTRESS, 0);
        fault(due, BUTTRESS + BAY, 0);
        fault(due, BAY + "f0,1,1,1;", 5);
        fault(due, BAY + "f0,1,1,1;" + BAY, 5);
        fault(due, BAY + BAY + "f0,1,1,1;", NONE);
        fault(due, BAY.repeat(8) + "f0,1,7,1;", NONE);
        fault(due, BAY.repeat(8) + "f0,1,8,1;", 40);
        fault(due, BAY + BUTTRESS + BAY + "f0,1,1,1;", NONE);
    }

    static void kneesBearFrom1To30(Bounds due) {
        fault(due, BAY + "f0,1,0,0;", 5);
        fault(due, BAY + "f0,1,0,1;", NONE);
        fault(due, BAY + "f0,1,0,30;", NONE);
        fault(due, BAY + "f0,1,0,31;", 5);
        fault(due, BAY + "f0,1,0,99;", 5);
    }

    static void thereAre6ButtressesAtMost(Bounds due) {
        fault(due, BAY + BUTTRESS.repeat(6), NONE);
        fault(due, BAY + BUTTRESS.repeat(7), 5 + 54);
        fault(due, BAY + BUTTRESS.repeat(6) + "d5;" + BUTTRESS, 5 + 57);
    }

    static void cartsAre0Or1(Bounds due) {
        fault(due, "c0;", NONE);
        fault(due, "c1;", NONE);
        fault(due, "c2;", 0);
        fault(due, "c10;", 0);
        fault(due, "c99;", 0);
    }

    static void thereAre12HoursOfCartsAtMost(Bounds due) {
        fault(due, "c1;".repeat(12), NONE);
        fault(due, "c1;".repeat(13), 36);
        fault(due, "c0;".repeat(13), 36);
        fault(due, "c0;".repeat(12) + BAY + "c0;", 41);
    }

    static void oneThatIsDownIsToldAhead(Bounds due) {
        fault(due, "d0;", 0);
        fault(due, BAY + "d0;", 5);
        fault(due, BAY + "d0;" + BUTTRESS, 5);
        fault(due, BAY + BUTTRESS + "d0;", NONE);
        fault(due, BAY + BUTTRESS + "d1;", 14);
        fault(due, BAY + BUTTRESS + "d1;" + BUTTRESS, 14);
        fault(due, BAY + BUTTRESS.repeat(6) + "d5;", NONE);
        fault(due, BAY + BUTTRESS.repeat(6) + "d6;", 59);
    }

    static void itIsNoMatterIfOneIsToldDownOnceMore(Bounds due) {
        fault(due, BAY + BUTTRESS + "d0;d0;", NONE);
        fault(due, BAY + BUTTRESS + "d0;".repeat(62), NONE);
    }

    static void numbersHaveOneOrTwoFigures(Bounds due) {
        fault(due, "b,1;", 0);
        fault(due, "b1,;", 0);
        fault(due, "b01,01;", NONE);
        fault(due, "b001,1;", 0);
        fault(due, "b1,001;", 0);
        fault(due, "c;", 0);
        fault(due, "c00;c01;", NONE);
        fault(due, "c000;", 0);
        fault(due, BAY + "f00,01,00,01;d00;", NONE);
        fault(due, BAY + "f000,1,0,1;", 5);
        fault(due, BAY + "f0,001,0,1;", 5);
        fault(due, BAY + "f0,1,000,1;", 5);
        fault(due, BAY + "f0,1,0,001;", 5);
        fault(due, BAY + "f,1,0,1;", 5);
        fault(due, BAY + "f0,,0,1;", 5);
        fault(due, BAY + "f0,1,,1;", 5);
        fault(due, BAY + "f0,1,0,;", 5);
        fault(due, BAY + BUTTRESS + "d;", 14);
        fault(due, BAY + BUTTRESS + "d000;", 14);
    }

    static void figuresAreFrom0To9Alone(Bounds due) {
        for (char sign : "/: +-.a".toCharArray()) {
            fault(due, "b" + sign + ",1;", 0);
            fault(due, "b1,1" + sign + ";", 0);
            fault(due, "c" + sign + ";", 0);
        }
    }

    static void aBayHasTwoNumbers(Bounds due) {
        fault(due, "b;", 0);
        fault(due, "b1;", 0);
        fault(due, "b1,1,1;", 0);
        fault(due, "b1,1,;", 0);
    }

    static void aButtressHasFourNumbers(Bounds due) {
        fault(due, BAY + "f;", 5);
        fault(due, BAY + "f0;", 5);
        fault(due, BAY + "f0,1,0;", 5);
        fault(due, BAY + "f0,1,0,1,1;", 5);
    }

    static void cartsAndDownHaveOneNumber(Bounds due) {
        fault(due, "c1,1;", 0);
        fault(due, "c1,;", 0);
        fault(due, BAY + BUTTRESS + "d0,0;", 14);
    }

    static void numbersArePartedByACommaAndEndWithASemicolon(Bounds due) {
        fault(due, "b1;1;", 0);
        fault(due, "b1.1;", 0);
        fault(due, "b1,1,", 0);
        fault(due, "b1,1:", 0);
        fault(due, "b1 ,1;", 0);
        fault(due, "b1,1 ;", 0);
        fault(due, BAY + "f0;1,0,1;", 5);
        fault(due, BAY + "f0,1,0;1;", 5);
    }

    static void theLastItemIsWhole(Bounds due) {
        for (String cut : new String[] {"b", "b1", "b12", "b12,", "b12,1", "b12,10"}) {
            fault(due, cut, 0);
            fault(due, BAY + cut, 5);
        }
        for (String cut : new String[] {"f", "f0", "f0,", "f0,1", "f0,1,", "f0,1,0", "f0,1,0,", "f0,1,0,1"}) {
            fault(due, BAY + cut, 5);
        }
        fault(due, "c", 0);
        fault(due, "c1", 0);
        fault(due, BAY + BUTTRESS + "d", 14);
        fault(due, BAY + BUTTRESS + "d0", 14);
    }

    static void noOtherLetterBeginsAnItem(Bounds due) {
        for (char letter = 32; letter <= 126; letter++) {
            if ("bfcd".indexOf(letter) < 0) {
                fault(due, BAY + BUTTRESS + letter + "0;", 14);
            }
        }
        fault(due, "B1,1;", 0);
        fault(due, "C1;", 0);
        fault(due, BAY + "F0,1,0,1;", 5);
        fault(due, BAY + BUTTRESS + "D0;", 14);
    }

    static void nothingStandsBetweenItems(Bounds due) {
        fault(due, BAY + ";" + BAY, 5);
        fault(due, BAY + " " + BAY, 5);
        fault(due, " " + BAY, 0);
        fault(due, BAY + " ", 5);
    }

    static void ofSeveralFaultsItIsTheFirst(Bounds due) {
        fault(due, "c2;c3;", 0);
        fault(due, BAY + "c2;x" + BAY + "b1,99;", 5);
        fault(due, BAY + "b1,21;f0,1,5,1;", 5);
    }

    static void aFullTextWithoutFaultHasNone(Bounds due) {
        String text = "b1,1;f0,1,0,1;" + "d0;".repeat(62);
        due.is("letters", text.length(), 200);
        fault(due, text, NONE);
    }

    static void aFullTextCutInItsLastItemHasOneThere(Bounds due) {
        fault(due, "b01,1;f0,1,0,1;" + "d0;".repeat(61) + "d0", 198);
    }

    static void theLastLetterOfAFullTextIsPlace199(Bounds due) {
        fault(due, "b01,01;f0,1,0,1;" + "d0;".repeat(61) + "d", 199);
    }

    static void theFirstLetterIsPlace0(Bounds due) {
        fault(due, "x", 0);
    }

    static void askingChangesNothing(Bounds due) {
        due.changesNothing("fault()", Told::lived, x -> x.fault());
        due.changesNothing("fault()", Told::livedLong, x -> x.fault());
        due.changesNothing("fault() of none", () -> Check.laid("b1,1;f0,1,0,1;c1;d0;"), x -> x.fault());
        due.changesNothing("fault() of an empty text", ButtressWall::new, x -> x.fault());
    }
}
