/** Promise 8, carts: the n-th hour from now on, 0 to 99, and the row of hours that begins again. */
public final class Promise08Carts {
    public static void main(String[] args) {
        Bounds.tryAll(Promise08Carts.class);
    }

    static void hour0IsThisOne(Bounds due) {
        due.is("carts(0) with", Check.laid("b0,0;c1;c0;").carts(0), 1);
        due.is("carts(0) without", Check.laid("b0,0;c0;c1;").carts(0), 0);
        due.refused("carts(-1)", Told::lived, x -> x.carts(-1), Bounds.BAD);
    }

    static void hour99IsTheLast(Bounds due) {
        due.is("carts(99) of two", Check.laid("b0,0;c0;c1;").carts(99), 1);
        due.is("carts(98) of two", Check.laid("b0,0;c0;c1;").carts(98), 0);
        due.refused("carts(100)", Told::lived, x -> x.carts(100), Bounds.BAD);
        due.is("carts(100) without any", Check.laid("b0,0;").carts(100), Bounds.BAD);
    }

    static void numbersFarOutsideAreBad(Bounds due) {
        for (int far : Bounds.FAR) {
            due.refused("carts(" + far + ")", Told::lived, x -> x.carts(far), Bounds.BAD);
        }
    }

    static void withoutAnyThereAreNever(Bounds due) {
        ButtressWall x = Check.laid("b0,0;");
        for (int n = 0; n <= 99; n++) {
            due.is("carts(" + n + ")", x.carts(n), 0);
        }
    }

    static void aRowOfOneIsEveryHour(Bounds due) {
        ButtressWall x = Check.laid("b0,0;c1;");
        ButtressWall y = Check.laid("b0,0;c0;");
        for (int n = 0; n <= 99; n++) {
            due.is("carts(" + n + ") with", x.carts(n), 1);
            due.is("carts(" + n + ") without", y.carts(n), 0);
        }
    }

    static void behindTheLastOfTwelveComesTheFirst(Bounds due) {
        ButtressWall x = Check.laid("b0,0;c1;c0;c0;c0;c0;c0;c0;c0;c0;c0;c0;c0;");
        ButtressWall y = Check.laid("b0,0;c0;c0;c0;c0;c0;c0;c0;c0;c0;c0;c0;c1;");
        for (int n = 0; n <= 99; n++) {
            due.is("carts(" + n + ") by the first", x.carts(n), n % 12 == 0 ? 1 : 0);
            due.is("carts(" + n + ") by the last", y.carts(n), n % 12 == 11 ? 1 : 0);
        }
    }

    static void theRowBeginsAgainFromALaterHourToo(Bounds due) {
        ButtressWall x = Check.laid("b0,0;c1;c0;c1;c1;c0;");
        int[] row = {1, 0, 1, 1, 0};
        for (int hour = 0; hour <= 11; hour++) {
            for (int n : new int[] {0, 1, 4, 5, 99}) {
                due.is("carts(" + n + ") in hour " + hour, x.carts(n), row[(hour + n) % 5]);
            }
            x.pass(1);
        }
    }

    static void hoursThatAreUndoneAreGone(Bounds due) {
        ButtressWall x = Check.laid("b0,0;c1;c0;c0;");
        x.pass(1);
        due.is("carts(0) in hour 1", x.carts(0), 0);
        x.undo();
        due.is("carts(0) in hour 0", x.carts(0), 1);
        x.keep();
        x.pass(2);
        due.is("carts(1) in hour 2", x.carts(1), 1);
        x.back();
        due.is("carts(1) in hour 0", x.carts(1), 0);
    }

    static void askingChangesNothing(Bounds due) {
        due.changesNothing("carts(99)", Told::lived, x -> x.carts(99));
    }
}
