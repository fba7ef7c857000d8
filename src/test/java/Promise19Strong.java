/** Promise 19, strong: the least STRENGTH, 1 to 99, by which the wall stands as long as with 99. */
public final class Promise19Strong {
    private static final String CARTS = "c1;c1;c1;c0;c1;c1;c1;c1;c1;c1;c1;c1;";

    public static void main(String[] args) {
        Bounds.tryAll(Promise19Strong.class);
    }

    private static void strong(Bounds due, String text, int strength) {
        due.is(text, Check.laid(text).strong(0), strength);
    }

    static void theFirstButtressIs0(Bounds due) {
        due.is("strong(0)", new ButtressWall().strong(0), 33);
        due.refused("strong(-1)", Told::lived, x -> x.strong(-1), Bounds.BAD);
    }

    static void theLastButtressIsOneLessThanThereAre(Bounds due) {
        ButtressWall x = Check.laid("b9,0;f0,1,0,9;f0,1,0,9;f0,1,0,9;f0,1,0,9;f0,1,0,9;f0,1,0,9;");
        due.is("strong(5)", x.strong(5), 4);
        due.is("strong(6)", x.strong(6), Bounds.BAD);
        due.refused("strong(4)", Told::lived, y -> y.strong(4), Bounds.BAD);
        due.is("strong(0) without any", Check.laid("b0,0;").strong(0), Bounds.BAD);
    }

    static void numbersFarOutsideAreBad(Bounds due) {
        for (int far : Bounds.FAR) {
            due.is("strong(" + far + ")", Told.lived().strong(far), Bounds.BAD);
        }
    }

    static void strength1IsTheLeast(Bounds due) {
        strong(due, "b1,0;f0,50,0,30;", 1);
        strong(due, "b0,0;f0,50,0,30;", 1);
        strong(due, "b2,0;f0,50,0,30;", 2);
    }

    static void strength99IsTheMost(Bounds due) {
        strong(due, "b99,0;f0,1,0,30;", 99);
        strong(due, "b98,0;f0,1,0,30;", 98);
    }

    static void whereEven99IsTooLittle1IsAsGood(Bounds due) {
        strong(due, "b99,0;b1,0;f0,50,0,30;", 1);
        strong(due, "b0,0;b49,0;f0,50,0,30;", 98);
        strong(due, "b0,0;b50,0;f0,50,0,30;", 1);
        ButtressWall x = Check.laid("b99,1;b99,0;f0,50,0,30;");
        due.is("beside one that falls sooner", x.strong(0), 1);
    }

    static void everyThrustAsksForItsOwn(Bounds due) {
        for (int thrust = 1; thrust <= 99; thrust++) {
            strong(due, "b" + thrust + ",0;f0,50,0,30;", thrust);
        }
    }

    static void halvesAreCut(Bounds due) {
        strong(due, "b10,0;b10,0;f0,5,0,30;", 30);
        strong(due, "b11,0;b1,0;f0,5,0,30;", 13);
        strong(due, "b20,3;b10,9;b9,3;f0,5,1,30;", 50);
    }

    static void asLongAsWith99ThoughItFalls(Bounds due) {
        strong(due, "b10,0;b90,5;f0,50,0,30;", 10);
        strong(due, "b10,4;b90,4;f0,50,0,30;", 1);
        strong(due, "b10,4;b90,3;f0,50,0,30;", 1);
    }

    static void noneFallsIsLongerThan60(Bounds due) {
        strong(due, "b10,20;f3,50,0,30;" + CARTS, 10);
        strong(due, "b10,19;f3,50,0,30;" + CARTS, 10);
        strong(due, "b10,0;b5,19;f0,10,0,30;f3,5,1,30;" + CARTS, 10);
    }

    static void oneThatIsDownStaysDown(Bounds due) {
        strong(due, "b10,0;f0,5,0,30;d0;", 1);
    }

    static void whereAllHaveFallenItIs1(Bounds due) {
        ButtressWall x = Check.laid("b10,0;f0,5,0,30;");
        x.pass(1);
        due.is("strong(0)", x.strong(0), 1);
    }

    static void othersBearTheirPart(Bounds due) {
        strong(due, "b10,0;f0,5,0,30;f0,7,0,30;", 3);
        strong(due, "b10,0;f0,5,0,30;f0,9,0,30;", 1);
        strong(due, "b10,0;f0,5,0,30;f0,10,0,30;", 1);
    }

    static void itsStrengthStaysAsItWas(Bounds due) {
        ButtressWall x = Check.laid("b10,0;b10,0;f0,5,0,30;");
        due.is("strong(0)", x.strong(0), 30);
        due.is("STRENGTH", x.buttress(0, 1), 5);
        due.is("strong(0) once more", x.strong(0), 30);
        due.is("stands(0)", x.stands(0), 1);
    }

    static void askingChangesNothing(Bounds due) {
        due.changesNothing("strong(1)", Told::lived, x -> x.strong(1));
        due.changesNothing("strong(0)", Told::livedLong, x -> x.strong(0));
    }
}
