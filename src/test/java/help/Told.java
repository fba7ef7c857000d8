/** What an object answers about itself, next to one another, so that two objects can be held against each other. */
final class Told {
    private Told() {
    }

    /** All that can be asked of the wall and of the text; it changes nothing. */
    static String whole(ButtressWall x) {
        return wall(x) + " letters " + x.count(8) + " fault " + x.fault();
    }

    /** The same without the text. */
    static String wall(ButtressWall x) {
        StringBuilder all = new StringBuilder();
        for (int what = 0; what <= 7; what++) {
            all.append(x.count(what)).append(' ');
        }
        for (int what = 0; what <= 6; what++) {
            all.append("bay ").append(what).append(": ").append(Check.bays(x, what)).append(' ');
        }
        for (int what = 0; what <= 5; what++) {
            all.append("buttress ").append(what).append(": ").append(Check.buttresses(x, what)).append(' ');
        }
        all.append("carts");
        for (int n = 0; n < 12; n++) {
            all.append(' ').append(x.carts(n));
        }
        return all.toString();
    }

    /** What hours and deeds can change, in fewer calls. */
    static String brief(ButtressWall x) {
        return x.count(2) + ": " + Check.bays(x, 5) + " | " + Check.bays(x, 6) + " | " + Check.buttresses(x, 2) + " | "
                + Check.buttresses(x, 4) + " | " + Check.buttresses(x, 5);
    }

    /** How things stand behind each undo, until there is none more. */
    static String undone(ButtressWall x) {
        StringBuilder all = new StringBuilder();
        int left = x.undo();
        for (int i = 0; i < 20 && left >= 0; i++) {
            all.append(left).append(" left, ").append(brief(x)).append("; ");
            left = x.undo();
        }
        return all.append(left).toString();
    }

    /** How things stand behind each back, until there is none more. */
    static String kept(ButtressWall x) {
        StringBuilder all = new StringBuilder();
        int left = x.back();
        for (int i = 0; i < 20 && left >= 0; i++) {
            all.append(left).append(" left, ").append(brief(x)).append("; ");
            left = x.back();
        }
        return all.append(left).toString();
    }

    /** What the text tells: where its fault is, and what is laid by it, as it is and with a last BAY made whole. */
    static String text(ButtressWall x) {
        String told = x.fault() + " " + x.lay();
        Check.write(x, "3,3;");
        return told + " " + x.fault() + " " + x.lay() + " " + wall(x);
    }

    /**
     * A wall to which all has happened, in an hour with CARTS: BAY 2 has FALLEN, BUTTRESS 0 (PLAIN) is DOWN and was
     * SENT to BAY 1, 1 (SHY) and 3 (YOUNG) are UP there, 2 (OLD) is DOWN at the FALLEN one; 3 can be UNDONE, 1 is
     * KEPT, and the text is another one by now, with a fault at its end.
     */
    static ButtressWall lived() {
        ButtressWall x = Check.laid(LIVED);
        x.keep();
        x.pass(1);
        x.down(0);
        x.send(0, 1);
        x.wipe();
        Check.write(x, LEFT);
        return x;
    }

    static final String LIVED = "b9,3;b9,20;b8,0;f0,9,0,9;f3,9,1,9;f2,5,2,9;f1,1,1,9;c0;c1;d2;", LEFT = "b7,6;f1,5,0,4;b";

    /** One that has as much as can be UNDONE and KEPT. */
    static ButtressWall livedLong() {
        ButtressWall x = lived();
        x.keep();
        for (int i = 0; i < 6; i++) {
            x.send(0, i % 3);
        }
        return x;
    }
}
