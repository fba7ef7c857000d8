import java.util.Random;

/** Every promise: runs of calls, drawn by fixed seeds, on the class and on the model that tells the document once more. */
public final class RandomRunsTest {
    private static final int RUNS = 1500;
    private static final int CALLS = 500;
    private static final Check CHECK = new Check();

    private final Random random;
    private final ButtressWall wall = new ButtressWall();
    private final WallModel model = new WallModel();
    private final StringBuilder log = new StringBuilder();
    private int calls;

    private RandomRunsTest(long seed) {
        random = new Random(seed);
    }

    public static void main(String[] args) {
        for (int seed = 0; seed < RUNS && CHECK.wrong() == 0; seed++) {
            new RandomRunsTest(seed).run(seed);
        }
        CHECK.end();
    }

    private void run(long seed) {
        if (seed % 10 != 0) {
            writeText();
        }
        if (seed % 5 == 1) {
            askRosters();
        }
        while (calls < CALLS && CHECK.wrong() == 0) {
            int kind = random.nextInt(100);
            if (kind < 1 && calls < CALLS - 220) {
                writeText();
            } else if (kind < 5) {
                same("lay()", wall.lay(), model.lay());
            } else if (kind < 35) {
                changeSomething();
            } else {
                askSomething();
            }
        }
        if (CHECK.wrong() != 0) {
            System.out.println("seed " + seed + ":" + log);
        }
    }

    private void same(String call, int got, int want) {
        calls++;
        log.append(' ').append(call);
        CHECK.due(call, got, want);
    }

    private void writeText() {
        same("wipe()", wall.wipe(), model.wipe());
        String text = randomText();
        if (random.nextInt(4) == 0) {
            text = spoil(text);
        }
        for (char letter : text.toCharArray()) {
            same("write(" + (int) letter + ")", wall.write(letter), model.write(letter));
        }
        same("fault()", wall.fault(), model.fault());
        same("lay()", wall.lay(), model.lay());
    }

    private String randomText() {
        // in a small wall some can come down, if the others stay up: rosters and cuts are told apart by these
        boolean small = random.nextInt(5) < 2;
        int bays = small ? 1 + random.nextInt(3) : 1 + random.nextInt(8);
        int buttresses = small ? 3 + random.nextInt(3) : random.nextInt(7);
        int bears = random.nextBoolean() ? 30 : 1 + random.nextInt(12);
        int[] strengths = new int[bays];
        StringBuilder told = new StringBuilder();
        for (int f = 0; f < buttresses; f++) {
            int strength = 1 + random.nextInt(random.nextBoolean() ? 99 : 40);
            int at = random.nextInt(bays);
            strengths[at] += strength;
            told.append('f').append(random.nextInt(4)).append(',').append(strength).append(',')
                    .append(at).append(',').append(1 + random.nextInt(bears)).append(';');
        }
        for (int c = random.nextInt(3) == 0 ? random.nextInt(13) : random.nextInt(4); c > 0; c--) {
            told.append('c').append(random.nextInt(2)).append(';');
        }
        for (int d = random.nextInt(3); d > 0 && buttresses > 0; d--) {
            told.append('d').append(random.nextInt(buttresses)).append(';');
        }
        return bayItems(strengths, small).append(told).toString();
    }

    /** Mostly walls that only just stand: the thrusts are drawn to match the strengths. */
    private StringBuilder bayItems(int[] strengths, boolean small) {
        StringBuilder items = new StringBuilder();
        boolean wild = !small && random.nextInt(4) == 0;
        int patience = small ? 1 + random.nextInt(2) : random.nextInt(3) == 0 ? 21 : 1 + random.nextInt(5);
        int share = small ? 20 + random.nextInt(60) : 20 + random.nextInt(100);
        for (int sum : strengths) {
            int thrust = wild ? random.nextInt(100) : Math.min(99, sum * share / 100 + random.nextInt(4));
            items.append('b').append(thrust).append(',').append(random.nextInt(patience)).append(';');
        }
        return items;
    }

    private String spoil(String text) {
        StringBuilder spoilt = new StringBuilder(text);
        String signs = "bfcd,;0123456789 x";
        int place = random.nextInt(text.length());
        char sign = signs.charAt(random.nextInt(signs.length()));
        switch (random.nextInt(4)) {
            case 0:
                spoilt.setCharAt(place, sign);
                break;
            case 1:
                spoilt.deleteCharAt(place);
                break;
            case 2:
                spoilt.setLength(place);
                break;
            default:
                spoilt.insert(place, sign);
        }
        return spoilt.toString();
    }

    /** Mostly a number that is told, now and then one beside it. */
    private int number(int low, int high) {
        if (random.nextInt(25) == 0) {
            return random.nextBoolean() ? low - 1 : high + 1;
        }
        return low + random.nextInt(Math.max(1, high - low + 1));
    }

    private int someBay() {
        return number(0, model.count(0) - 1);
    }

    private int someButtress() {
        return number(0, model.count(1) - 1);
    }

    private int heldNow() {
        int bits = 0;
        for (int b = 0; b < model.count(0); b++) {
            bits |= model.bay(b, 4) << b;
        }
        return bits;
    }

    private void changeSomething() {
        int f = someButtress();
        int b = someBay();
        int n = random.nextInt(4) == 0 ? number(1, 24) : number(1, 3);
        switch (random.nextInt(12)) {
            case 0:
            case 1:
            case 2:
                same("pass(" + n + ")", wall.pass(n), model.pass(n));
                break;
            case 3:
            case 4:
                same("down(" + f + ")", wall.down(f), model.down(f));
                break;
            case 5:
            case 6:
                same("up(" + f + ")", wall.up(f), model.up(f));
                break;
            case 7:
                same("send(" + f + ", " + b + ")", wall.send(f, b), model.send(f, b));
                break;
            case 8:
            case 9:
                same("undo()", wall.undo(), model.undo());
                break;
            case 10:
                same("keep()", wall.keep(), model.keep());
                break;
            default:
                same("back()", wall.back(), model.back());
        }
    }

    private void askSomething() {
        int f = someButtress();
        int b = someBay();
        switch (random.nextInt(16)) {
            case 0:
            case 1: {
                int what = number(0, 6);
                same("bay(" + b + ", " + what + ")", wall.bay(b, what), model.bay(b, what));
                break;
            }
            case 2:
            case 3: {
                int what = number(0, 5);
                same("buttress(" + f + ", " + what + ")", wall.buttress(f, what), model.buttress(f, what));
                break;
            }
            case 4: {
                int n = number(0, 99);
                same("carts(" + n + ")", wall.carts(n), model.carts(n));
                break;
            }
            case 5:
            case 6: {
                int what = number(0, 8);
                same("count(" + what + ")", wall.count(what), model.count(what));
                break;
            }
            default:
                askDearly(f);
        }
    }

    private void askRosters() {
        for (int n = 2; n <= 4; n++) {
            for (int f = 0; f < model.count(1); f++) {
                same("roster(" + n + ", " + f + ")", wall.roster(n, f), model.roster(n, f));
            }
        }
    }

    private void askDearly(int f) {
        int what = number(0, 1);
        switch (random.nextInt(10)) {
            case 0:
                same("stands(" + what + ")", wall.stands(what), model.stands(what));
                break;
            case 1:
                same("needed()", wall.needed(), model.needed());
                break;
            case 2:
                same("cuts()", wall.cuts(), model.cuts());
                break;
            case 3: {
                // the model is slow where there are many ways
                int n = random.nextInt(10) == 0 ? number(1, 5) : number(1, 3);
                int g = random.nextBoolean() ? -1 : f;
                same("roster(" + n + ", " + g + ")", wall.roster(n, g), model.roster(n, g));
                break;
            }
            case 4:
                same("place(" + f + ")", wall.place(f), model.place(f));
                break;
            case 5:
                same("strong(" + f + ")", wall.strong(f), model.strong(f));
                break;
            case 6: {
                int bays = random.nextBoolean() ? heldNow() : number(0, (1 << model.count(0)) - 1);
                same("who(" + bays + ", " + what + ")", wall.who(bays, what), model.who(bays, what));
                break;
            }
            case 7: {
                int n = random.nextInt(4) == 0 ? number(1, 40) : number(1, 6);
                same("knees(" + f + ", " + n + ")", wall.knees(f, n), model.knees(f, n));
                break;
            }
            case 8: {
                int x = number(0, 10);
                same("shirkers(" + x + ", " + what + ")", wall.shirkers(x, what), model.shirkers(x, what));
                break;
            }
            default: {
                int z = number(0, 9999);
                int n = number(1, 60);
                same("night(" + z + ", " + n + ", " + what + ")", wall.night(z, n, what), model.night(z, n, what));
            }
        }
    }
}
