import java.lang.management.ManagementFactory;

/** All calls of a run share one room: an object takes little of it when it is made, and its calls take none. */
public final class RoomTest {
    private static final Check CHECK = new Check();
    private static final String WIDE = "b9,4;b1,4;b2,4;b3,4;b4,4;b5,4;b6,4;b7,4;"
            + "f1,9,0,30;f1,9,1,30;f2,9,2,30;f3,9,3,30;f0,9,4,30;f0,9,5,30;c1;c0;";

    private static long taken() {
        com.sun.management.ThreadMXBean threads =
                (com.sun.management.ThreadMXBean) ManagementFactory.getThreadMXBean();
        return threads.getThreadAllocatedBytes(Thread.currentThread().getId());
    }

    public static void main(String[] args) {
        askAll(Check.laid(WIDE));
        taken();
        long ahead = taken();
        ButtressWall wall = new ButtressWall();
        long made = taken() - ahead;
        CHECK.holds("room of an object: " + made + " bytes", made > 0 && made < 10_000);
        Check.write(wall, WIDE);
        ahead = taken();
        askAll(wall);
        long asked = taken() - ahead;
        CHECK.holds("room of calls: " + asked + " bytes", asked < 1_000);
        CHECK.end();
    }

    private static void askAll(ButtressWall x) {
        x.fault();
        x.lay();
        x.pass(2);
        x.down(0);
        x.send(0, 1);
        x.up(0);
        x.undo();
        x.keep();
        x.stands(0);
        x.needed();
        x.cuts();
        x.roster(5, -1);
        x.place(0);
        x.strong(1);
        x.who(255, 0);
        x.knees(1, 40);
        x.shirkers(5, 0);
        x.night(9999, 60, 0);
        x.back();
        x.bay(0, 3);
        x.buttress(0, 4);
        x.carts(99);
        x.count(4);
        x.write('b');
        x.wipe();
    }
}
