/** Counts the answers that are not as due, and ends a test by them. */
final class Check {
    private int wrong;

    void due(String call, int got, int want) {
        if (got != want) {
            wrong++;
            System.out.println(call + " answered " + got + ", due is " + want);
        }
    }

    void holds(String what, boolean so) {
        due(what, so ? 1 : 0, 1);
    }

    int wrong() {
        return wrong;
    }

    void end() {
        System.out.println(wrong == 0 ? "all answers are as due" : wrong + " answers are not as due");
        if (wrong != 0) {
            System.exit(1);
        }
    }

    static void write(ButtressWall wall, String text) {
        for (char letter : text.toCharArray()) {
            wall.write(letter);
        }
    }

    /** A new object on which the text is laid. */
    static ButtressWall laid(String text) {
        ButtressWall wall = new ButtressWall();
        write(wall, text);
        if (wall.lay() < 1) {
            throw new IllegalArgumentException("not to be laid: " + text);
        }
        return wall;
    }

    /** Answers of one question about every bay or every buttress, next to one another. */
    static String bays(ButtressWall wall, int what) {
        StringBuilder answers = new StringBuilder();
        for (int b = 0; b < wall.count(0); b++) {
            answers.append(b == 0 ? "" : " ").append(wall.bay(b, what));
        }
        return answers.toString();
    }

    static String buttresses(ButtressWall wall, int what) {
        StringBuilder answers = new StringBuilder();
        for (int f = 0; f < wall.count(1); f++) {
            answers.append(f == 0 ? "" : " ").append(wall.buttress(f, what));
        }
        return answers.toString();
    }

    void same(String what, String got, String want) {
        if (!got.equals(want)) {
            wrong++;
            System.out.println(what + " answered " + got + ", due is " + want);
        }
    }
}
