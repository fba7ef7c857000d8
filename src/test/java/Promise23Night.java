import java.math.BigInteger;

/** Promise 23, night: by z, 0 to 9999, of 1 to 60 HOURS; as if each DRAW were done by the calls themselves. */
public final class Promise23Night {
    /** Nothing can fall in the second, so that there is something to be done in every hour. */
    private static final String SMALL = "b9,1;b0,20;f0,9,0,30;f3,5,1,30;c0;c1;", STEADY = "b0,0;b0,0;f0,9,0,9;f2,9,1,9;",
            WIDE = "b9,9;b8,9;b7,9;b6,9;b5,9;b4,9;b3,9;b2,9;f0,9,0,9;f1,20,1,9;f2,30,3,9;f3,20,5,9;f0,9,7,9;c1;c0;c0;d2;";

    public static void main(String[] args) {
        Bounds.tryAll(Promise23Night.class);
    }

    private static int draw(int z, int k) {
        BigInteger x = BigInteger.valueOf(7919).multiply(BigInteger.valueOf(z))
                .add(BigInteger.valueOf(6151).multiply(BigInteger.valueOf(k))).add(BigInteger.ONE);
        return x.multiply(x).mod(BigInteger.valueOf(65521)).intValue();
    }

    /** The same night by down, up, send and pass. */
    private static void follow(ButtressWall x, int z, int n) {
        int bays = x.count(0);
        int buttresses = x.count(1);
        for (int k = 0; k < n; k++) {
            int draw = draw(z, k);
            if (buttresses > 0) {
                int f = draw / 8 % buttresses;
                switch (draw % 8) {
                    case 0 -> x.down(f);
                    case 1, 2 -> x.up(f);
                    case 3 -> x.send(f, draw / 64 % bays);
                    default -> { }
                }
            }
            x.pass(1);
        }
    }

    private static void asFollowed(Bounds due, String text, int z, int n) {
        ButtressWall x = text.isEmpty() ? new ButtressWall() : Check.laid(text);
        int fallen = x.night(z, n, 0);
        int up = x.night(z, n, 1);
        follow(x, z, n);
        due.is("night(" + z + ", " + n + ", 0) of " + text, fallen, x.count(5));
        due.is("night(" + z + ", " + n + ", 1) of " + text, up, x.count(3));
    }

    static void z0IsTheLeast(Bounds due) {
        due.is("night(0, 1, 1), it goes UP", Check.laid("b9,0;f0,9,0,9;d0;").night(0, 1, 1), 1);
        asFollowed(due, WIDE, 0, 60);
        due.refused("night(-1, 1, 0)", Told::lived, x -> x.night(-1, 1, 0), Bounds.BAD);
    }

    static void z9999IsTheMost(Bounds due) {
        asFollowed(due, WIDE, 9999, 60);
        asFollowed(due, SMALL, 9999, 60);
        due.refused("night(10000, 1, 0)", Told::lived, x -> x.night(10000, 1, 0), Bounds.BAD);
    }

    static void oneHourIsTheLeast(Bounds due) {
        due.is("night(1, 1, 0)", Check.laid("b9,0;").night(1, 1, 0), 1);
        due.is("night(1, 1, 0), H 1", Check.laid("b9,1;").night(1, 1, 0), 0);
        due.refused("night(0, 0, 0)", Told::lived, x -> x.night(0, 0, 0), Bounds.BAD);
        due.refused("night(0, -1, 0)", Told::lived, x -> x.night(0, -1, 0), Bounds.BAD);
    }

    static void hours60AreTheMost(Bounds due) {
        boolean lastHourTells = false;
        for (int z = 0; z < 40; z++) {
            ButtressWall x = Check.laid(STEADY);
            lastHourTells |= x.night(z, 59, 1) != x.night(z, 60, 1);
            asFollowed(due, STEADY, z, 59);
            asFollowed(due, STEADY, z, 60);
        }
        due.holds("the 60th hour makes a difference by some z", lastHourTells);
        due.refused("night(0, 61, 0)", Told::lived, x -> x.night(0, 61, 0), Bounds.BAD);
    }

    static void whatIs0Or1(Bounds due) {
        due.refused("night(0, 1, -1)", Told::lived, x -> x.night(0, 1, -1), Bounds.BAD);
        due.refused("night(0, 1, 2)", Told::lived, x -> x.night(0, 1, 2), Bounds.BAD);
    }

    static void numbersFarOutsideAreBad(Bounds due) {
        for (int far : Bounds.FAR) {
            due.is("night(" + far + ", 1, 0)", Told.lived().night(far, 1, 0), Bounds.BAD);
            due.is("night(0, " + far + ", 0)", Told.lived().night(0, far, 0), Bounds.BAD);
            due.is("night(0, 1, " + far + ")", Told.lived().night(0, 1, far), Bounds.BAD);
        }
    }

    static void eachDrawIsDoneIfItCanBe(Bounds due) {
        for (int z = 0; z < 200; z++) {
            for (int n : new int[] {1, 2, 7, 60}) {
                asFollowed(due, "", z, n);
                asFollowed(due, SMALL, z, n);
                asFollowed(due, WIDE, 9999 - z, n);
            }
        }
    }

    static void withoutAButtressHoursGoBy(Bounds due) {
        ButtressWall x = Check.laid("b9,3;b9,5;b0,0;");
        due.is("night(7, 3, 0)", x.night(7, 3, 0), 0);
        due.is("night(7, 4, 0)", x.night(7, 4, 0), 1);
        due.is("night(7, 60, 0)", x.night(7, 60, 0), 3);
        due.is("night(7, 60, 1)", x.night(7, 60, 1), 0);
    }

    static void allBaysFallAndAllAreUp(Bounds due) {
        ButtressWall x = Check.laid("b9,0;b9,0;b9,0;b9,0;b9,0;b9,0;b9,0;b9,0;");
        due.is("night(0, 1, 0) of eight", x.night(0, 1, 0), 8);
        ButtressWall y = Check.laid("b0,0;" + "f0,9,0,30;".repeat(6));
        due.is("night(1, 1, 1) of six", y.night(1, 1, 1), 6);
    }

    /** By z 0 the first is to go UP: were it, the YOUNG one next to it would tire by 1 less, and stay UP. */
    static void oneAtAFallenBayDoesNotGoUp(Bounds due) {
        ButtressWall x = Check.laid("b90,0;b0,20;f0,1,0,30;f1,1,1,3;d0;");
        x.pass(1);
        due.same("FALLEN", Check.bays(x, 6), "1 0");
        due.is("TIRED", x.buttress(1, 4), 2);
        due.is("night(0, 1, 1)", x.night(0, 1, 1), 0);
    }

    static void whatHasFallenAheadIsCounted(Bounds due) {
        ButtressWall x = Check.laid("b9,0;b0,20;");
        x.pass(1);
        due.is("night(0, 1, 0)", x.night(0, 1, 0), 1);
    }

    static void aNightIsFromNowOn(Bounds due) {
        ButtressWall x = Check.laid("b9,3;");
        x.pass(2);
        due.is("night(0, 1, 0)", x.night(0, 1, 0), 0);
        due.is("night(0, 2, 0)", x.night(0, 2, 0), 1);
        for (int z = 0; z < 30; z++) {
            ButtressWall y = Check.laid(WIDE);
            y.pass(2);
            int up = y.night(z, 30, 1);
            follow(y, z, 30);
            due.is("night(" + z + ", 30, 1) in hour 2", up, y.count(3));
        }
    }

    static void askingChangesNothing(Bounds due) {
        due.changesNothing("night(9999, 60, 0)", Told::lived, x -> x.night(9999, 60, 0));
        due.changesNothing("night(0, 60, 1)", Told::livedLong, x -> x.night(0, 60, 1));
    }
}
