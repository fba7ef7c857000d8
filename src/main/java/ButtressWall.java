/** A wall whose flying buttresses come down of an evening; ../shared/DOC.md says what each call promises. */
public final class ButtressWall {
    public static final int BAD = -1, NO = -2, FULL = -3, NONE = -4;

    private static final int MAX_LETTERS = 200, MAX_BAYS = 8, MAX_BUTTRESSES = 6, MAX_CART_HOURS = 12;
    private static final int MAX_UNDONE = 8, MAX_KEPT = 2, MAX_TIRED = 99, MAX_STRENGTH = 99, MAX_KNEES = 30;
    private static final int YOUNG = 1, OLD = 2, SHY = 3;
    private static final int STANDS_HOURS = 60, NEEDED_HOURS = 12, CUT_HOURS = 24, SHIRKERS_HOURS = 12;
    private static final int MAX_ROSTER_HOURS = 5;
    private static final String FIRST_TEXT = "b20,3;b35,2;b40,2;b30,4;b15,6;f0,25,1,10;f1,15,0,6;f2,30,2,8;f3,20,3,12;f0,18,4,9;f2,22,1,7;c0;c0;c1;c0;d4;";

    private final Text text = new Text();
    private final Reader reader = new Reader();
    private final Clock clock = new Clock();
    private final Trial trial = new Trial();
    private final Rosters rosters = new Rosters();
    private final State now = new State();
    private final Trail trail = new Trail();
    private final State[] kept = new State[MAX_KEPT];
    private int keptCount;
    private Wall laid = new Wall();
    /** Read into, and changed in trials, so that what is laid stays whole. */
    private Wall spare = new Wall();

    public ButtressWall() {
        for (int i = 0; i < MAX_KEPT; i++) {
            kept[i] = new State();
        }
        for (int i = 0; i < FIRST_TEXT.length(); i++) {
            text.add(FIRST_TEXT.charAt(i));
        }
        layText();
        text.length = 0;
    }

    // ---- walls

    public int write(int letter) {
        if (letter < 32 || letter > 126) {
            return BAD;
        }
        return text.add((char) letter) ? text.length : FULL;
    }

    public int wipe() {
        int length = text.length;
        text.length = 0;
        return length;
    }

    public int fault() {
        return reader.readWall(text, spare);
    }

    public int lay() {
        return layText();
    }

    public int bay(int b, int what) {
        if (!laid.hasBay(b) || what < 0 || what > 6) {
            return BAD;
        }
        boolean fallen = now.hasFallen(b);
        switch (what) {
            case 0:
                return laid.thrust[b];
            case 1:
                return laid.patience[b];
            case 6:
                return fallen ? 1 : 0;
            default:
                return fallen ? 0 : standingBay(b, what);
        }
    }

    public int buttress(int f, int what) {
        if (!laid.hasButtress(f)) {
            return BAD;
        }
        switch (what) {
            case 0:
                return laid.kind[f];
            case 1:
                return laid.strength[f];
            case 2:
                return now.bayOf[f];
            case 3:
                return laid.bears[f];
            case 4:
                return now.tired[f];
            case 5:
                return now.isUp(f) ? 1 : 0;
            default:
                return BAD;
        }
    }

    public int carts(int n) {
        if (n < 0 || n > 99) {
            return BAD;
        }
        return laid.hasCarts(now.hour + n) ? 1 : 0;
    }

    // ---- hours

    public int pass(int n) {
        if (n < 1 || n > 24) {
            return BAD;
        }
        trail.remember(now);
        for (int i = 0; i < n; i++) {
            clock.goBy(laid, now);
        }
        return now.hour;
    }

    public int down(int f) {
        if (!laid.hasButtress(f)) {
            return BAD;
        }
        if (!now.canComeDown(laid, f)) {
            return NO;
        }
        trail.remember(now);
        now.comeDown(f);
        return now.tired[f];
    }

    public int up(int f) {
        if (!laid.hasButtress(f)) {
            return BAD;
        }
        if (!now.canGoUp(laid, f)) {
            return NO;
        }
        trail.remember(now);
        now.goUp(f);
        return now.upAt(laid, now.bayOf[f]);
    }

    public int send(int f, int b) {
        if (!laid.hasButtress(f) || !laid.hasBay(b)) {
            return BAD;
        }
        if (now.isUp(f)) {
            return NO;
        }
        trail.remember(now);
        int from = now.bayOf[f];
        now.bayOf[f] = b;
        return from;
    }

    public int undo() {
        return trail.restore(now) ? trail.size : NO;
    }

    // ---- how long

    public int stands(int what) {
        if (what < 0 || what > 1) {
            return BAD;
        }
        trial.startFrom(now);
        int hours = trial.fallsBehind(laid, STANDS_HOURS);
        return what == 0 ? hours : trial.lowestFell();
    }

    public int needed() {
        int best = NONE;
        for (int set = 0; set <= laid.allButtresses(); set++) {
            if (isFewer(set, best) && now.allAtStanding(laid, set) && wouldHold(set)) {
                best = set;
            }
        }
        return best;
    }

    public int cuts() {
        int best = NONE;
        for (int set = 0; set <= laid.allButtresses(); set++) {
            if (isFewer(set, best) && isPart(set, now.up) && wouldBreak(set)) {
                best = set;
            }
        }
        return best;
    }

    public int roster(int n, int f) {
        if (n < 1 || n > MAX_ROSTER_HOURS || f != -1 && !laid.hasButtress(f)) {
            return BAD;
        }
        if (f != -1 && !now.isUp(f) || !rosters.findFirst(laid, now, n)) {
            return NONE;
        }
        return f == -1 ? 1 : rosters.hourOf(f);
    }

    public int place(int f) {
        if (!laid.hasButtress(f)) {
            return BAD;
        }
        if (now.isUp(f)) {
            return NO;
        }
        int best = NONE;
        int longest = 0;
        for (int b = 0; b < laid.bays; b++) {
            int hours = now.hasFallen(b) ? 0 : standsWithAt(f, b);
            if (hours > longest) {
                best = b;
                longest = hours;
            }
        }
        return best;
    }

    public int strong(int f) {
        if (!laid.hasButtress(f)) {
            return BAD;
        }
        spare.takeFrom(laid);
        int longest = standsWithStrength(f, MAX_STRENGTH);
        int least = 1;
        int enough = MAX_STRENGTH;
        // strength changes who is up only by a fall, so more of it never makes the first fall sooner: halving finds it
        for (int i = 0; i < MAX_STRENGTH && least < enough; i++) {
            int middle = (least + enough) / 2;
            if (standsWithStrength(f, middle) == longest) {
                enough = middle;
            } else {
                least = middle + 1;
            }
        }
        return enough;
    }

    // ---- what was so

    public int who(int bays, int what) {
        if (bays < 0 || bays > laid.allBays() || what < 0 || what > 1) {
            return BAD;
        }
        int sets = 0;
        int lowest = NONE;
        for (int set = laid.allButtresses(); set >= 0; set--) {
            if (now.allAtStanding(laid, set) && wouldBeHeld(set) == bays) {
                sets++;
                lowest = set;
            }
        }
        return what == 0 ? sets : lowest;
    }

    public int knees(int f, int n) {
        if (!laid.hasButtress(f) || n < 1 || n > 40) {
            return BAD;
        }
        if (!now.isUp(f)) {
            return NO;
        }
        spare.takeFrom(laid);
        int fitting = 0;
        for (int bears = 1; bears <= MAX_KNEES; bears++) {
            spare.bears[f] = bears;
            trial.startFrom(now);
            if (trial.givesWayBehind(spare, f, n)) {
                fitting |= 1 << bears;
            }
        }
        return fitting;
    }

    // ---- shirkers, nights

    public int shirkers(int x, int part) {
        if (x < 0 || x > 10 || part < 0 || part > 1) {
            return BAD;
        }
        int above = 0;
        int below = power(10, Integer.bitCount(now.up));
        for (int set = 0; set <= laid.allButtresses(); set++) {
            int weight = isPart(set, now.up) ? shirkWeight(set, x) : 0;
            if (weight > 0 && standsWithShirkers(set)) {
                above += weight;
            }
        }
        int common = commonDivisor(above, below);
        int asked = part == 0 ? above : below;
        return common > 0 ? asked / common : asked;
    }

    public int night(int z, int n, int what) {
        if (z < 0 || z > 9999 || n < 1 || n > 60 || what < 0 || what > 1) {
            return BAD;
        }
        trial.startFrom(now);
        for (int k = 0; k < n; k++) {
            trial.followDraw(laid, draw(z, k));
            clock.goBy(laid, trial.then);
        }
        return Integer.bitCount(what == 0 ? trial.then.fallen : trial.then.up);
    }

    public int keep() {
        if (keptCount >= MAX_KEPT) {
            return FULL;
        }
        kept[keptCount].takeFrom(now);
        keptCount++;
        return keptCount;
    }

    public int back() {
        if (keptCount <= 0) {
            return NO;
        }
        keptCount--;
        now.takeFrom(kept[keptCount]);
        trail.forget();
        return keptCount;
    }

    public int count(int what) {
        switch (what) {
            case 0:
                return laid.bays;
            case 1:
                return laid.buttresses;
            case 2:
                return now.hour;
            case 3:
                return Integer.bitCount(now.up);
            case 4:
                return Integer.bitCount(clock.heldBays(laid, now));
            case 5:
                return Integer.bitCount(now.fallen);
            case 6:
                return trail.size;
            case 7:
                return keptCount;
            case 8:
                return text.length;
            default:
                return BAD;
        }
    }

    // ---- what the calls share

    private int layText() {
        if (reader.readWall(text, spare) != NONE || spare.bays == 0) {
            return NO;
        }
        Wall before = laid;
        laid = spare;
        spare = before;
        now.begin(laid);
        trail.forget();
        keptCount = 0;
        return laid.bays;
    }

    private int standingBay(int b, int what) {
        int held = clock.heldBays(laid, now);
        switch (what) {
            case 2:
                return clock.load[b];
            case 3:
                return clock.props[b];
            case 4:
                return hasBit(held, b) ? 1 : 0;
            default:
                return now.unheld[b];
        }
    }

    private boolean wouldHold(int set) {
        trial.startFrom(now);
        trial.then.up = set;
        return trial.fallsBehind(laid, NEEDED_HOURS) == NONE;
    }

    private boolean wouldBreak(int set) {
        trial.startFrom(now);
        trial.then.up = now.up & ~set;
        return trial.fallsBehind(laid, CUT_HOURS) != NONE;
    }

    private int wouldBeHeld(int set) {
        trial.startFrom(now);
        trial.then.up = set;
        return clock.heldBays(laid, trial.then);
    }

    private int standsWithAt(int f, int b) {
        trial.startFrom(now);
        trial.then.bayOf[f] = b;
        trial.then.goUp(f);
        return trial.standsFor(laid);
    }

    private int standsWithStrength(int f, int strength) {
        spare.strength[f] = strength;
        trial.startFrom(now);
        return trial.standsFor(spare);
    }

    private int shirkWeight(int set, int x) {
        int off = Integer.bitCount(set);
        return power(x, off) * power(10 - x, Integer.bitCount(now.up) - off);
    }

    private boolean standsWithShirkers(int set) {
        trial.startFrom(now);
        trial.then.up = now.up & ~set;
        if (trial.fallsBehind(laid, 1) != NONE) {
            return false;
        }
        // nothing has fallen, so all of them can go up
        trial.then.up |= set;
        return trial.fallsBehind(laid, SHIRKERS_HOURS - 1) == NONE;
    }

    private static boolean hasBit(int bits, int bit) {
        return (bits >> bit & 1) == 1;
    }

    private static boolean isPart(int set, int whole) {
        return (set & ~whole) == 0;
    }

    /** Sets come lowest first, so one of as many as the best is never better. */
    private static boolean isFewer(int set, int best) {
        return best == NONE || Integer.bitCount(set) < Integer.bitCount(best);
    }

    private static int draw(int z, int k) {
        long x = 7919L * z + 6151L * k + 1;
        return (int) (x * x % 65521);
    }

    private static int power(int base, int exponent) {
        int product = 1;
        for (int i = 0; i < exponent; i++) {
            product *= base;
        }
        return product;
    }

    private static int commonDivisor(int a, int b) {
        int larger = a;
        int smaller = b;
        // no two ints need more than 46 steps
        for (int i = 0; i < 64 && smaller != 0; i++) {
            int rest = larger % smaller;
            larger = smaller;
            smaller = rest;
        }
        return larger;
    }

    /** THE TEXT, as it has been written so far. */
    private static final class Text {
        final char[] letters = new char[MAX_LETTERS];
        int length;

        boolean add(char letter) {
            if (length < 0 || length >= MAX_LETTERS) {
                return false;
            }
            letters[length] = letter;
            length++;
            return true;
        }

        /** 0, which no item has, stands for what is not there. */
        char letterAt(int spot) {
            return spot >= 0 && spot < length && spot < MAX_LETTERS ? letters[spot] : 0;
        }
    }

    /** Reads a text, item by item, into a wall. */
    private static final class Reader {
        private final int[] numbers = new int[4];
        private int next;

        int readWall(Text text, Wall into) {
            into.clear();
            next = 0;
            for (int items = 0; items < MAX_LETTERS && next < text.length; items++) {
                int first = next;
                if (!readItem(text, into)) {
                    return first;
                }
            }
            return NONE;
        }

        private boolean readItem(Text text, Wall into) {
            char letter = text.letterAt(next);
            next++;
            int wanted = numbersBehind(letter);
            if (wanted == 0) {
                return false;
            }
            for (int i = 0; i < wanted; i++) {
                if (!readNumber(text, i) || text.letterAt(next) != (i == wanted - 1 ? ';' : ',')) {
                    return false;
                }
                next++;
            }
            return takeItem(letter, into);
        }

        private boolean readNumber(Text text, int i) {
            int value = figure(text.letterAt(next));
            if (value < 0 || i < 0 || i >= numbers.length) {
                return false;
            }
            next++;
            int second = figure(text.letterAt(next));
            if (second >= 0) {
                value = value * 10 + second;
                next++;
            }
            numbers[i] = value;
            return true;
        }

        private boolean takeItem(char letter, Wall into) {
            switch (letter) {
                case 'b':
                    return into.addBay(numbers[0], numbers[1]);
                case 'f':
                    return into.addButtress(numbers[0], numbers[1], numbers[2], numbers[3]);
                case 'c':
                    return into.addCarts(numbers[0]);
                default:
                    return into.addDown(numbers[0]);
            }
        }

        private static int numbersBehind(char letter) {
            switch (letter) {
                case 'b':
                    return 2;
                case 'f':
                    return 4;
                case 'c':
                case 'd':
                    return 1;
                default:
                    return 0;
            }
        }

        private static int figure(char letter) {
            return letter >= '0' && letter <= '9' ? letter - '0' : -1;
        }
    }

    /** What a text tells; hours change nothing in it. */
    private static final class Wall {
        int bays;
        int buttresses;
        int cartHours;
        int cartBits;
        int downBits;
        final int[] thrust = new int[MAX_BAYS];
        final int[] patience = new int[MAX_BAYS];
        final int[] kind = new int[MAX_BUTTRESSES];
        final int[] strength = new int[MAX_BUTTRESSES];
        final int[] firstBay = new int[MAX_BUTTRESSES];
        final int[] bears = new int[MAX_BUTTRESSES];

        void clear() {
            bays = 0;
            buttresses = 0;
            cartHours = 0;
            cartBits = 0;
            downBits = 0;
        }

        void takeFrom(Wall other) {
            bays = other.bays;
            buttresses = other.buttresses;
            cartHours = other.cartHours;
            cartBits = other.cartBits;
            downBits = other.downBits;
            System.arraycopy(other.thrust, 0, thrust, 0, MAX_BAYS);
            System.arraycopy(other.patience, 0, patience, 0, MAX_BAYS);
            System.arraycopy(other.kind, 0, kind, 0, MAX_BUTTRESSES);
            System.arraycopy(other.strength, 0, strength, 0, MAX_BUTTRESSES);
            System.arraycopy(other.firstBay, 0, firstBay, 0, MAX_BUTTRESSES);
            System.arraycopy(other.bears, 0, bears, 0, MAX_BUTTRESSES);
        }

        boolean addBay(int t, int h) {
            if (bays >= MAX_BAYS || t > 99 || h > 20) {
                return false;
            }
            thrust[bays] = t;
            patience[bays] = h;
            bays++;
            return true;
        }

        boolean addButtress(int k, int s, int x, int l) {
            boolean told = k <= SHY && s >= 1 && s <= MAX_STRENGTH && hasBay(x) && l >= 1 && l <= MAX_KNEES;
            if (buttresses >= MAX_BUTTRESSES || !told) {
                return false;
            }
            kind[buttresses] = k;
            strength[buttresses] = s;
            firstBay[buttresses] = x;
            bears[buttresses] = l;
            buttresses++;
            return true;
        }

        boolean addCarts(int c) {
            if (cartHours >= MAX_CART_HOURS || c > 1) {
                return false;
            }
            cartBits |= c << cartHours;
            cartHours++;
            return true;
        }

        boolean addDown(int x) {
            if (!hasButtress(x)) {
                return false;
            }
            downBits |= 1 << x;
            return true;
        }

        boolean hasBay(int b) {
            return b >= 0 && b < bays && b < MAX_BAYS;
        }

        boolean hasButtress(int f) {
            return f >= 0 && f < buttresses && f < MAX_BUTTRESSES;
        }

        boolean hasCarts(int hour) {
            return cartHours > 0 && hasBit(cartBits, Math.floorMod(hour, cartHours));
        }

        int allBays() {
            return (1 << bays) - 1;
        }

        int allButtresses() {
            return (1 << buttresses) - 1;
        }
    }

    /** How things stand in an hour; who is up and which bays have fallen as bits. */
    private static final class State {
        int hour;
        int up;
        int fallen;
        final int[] bayOf = new int[MAX_BUTTRESSES];
        final int[] tired = new int[MAX_BUTTRESSES];
        final int[] unheld = new int[MAX_BAYS];

        void begin(Wall wall) {
            hour = 0;
            up = wall.allButtresses() & ~wall.downBits;
            fallen = 0;
            for (int f = 0; f < MAX_BUTTRESSES; f++) {
                bayOf[f] = wall.firstBay[f];
                tired[f] = 0;
            }
            for (int b = 0; b < MAX_BAYS; b++) {
                unheld[b] = 0;
            }
        }

        void takeFrom(State other) {
            hour = other.hour;
            up = other.up;
            fallen = other.fallen;
            System.arraycopy(other.bayOf, 0, bayOf, 0, MAX_BUTTRESSES);
            System.arraycopy(other.tired, 0, tired, 0, MAX_BUTTRESSES);
            System.arraycopy(other.unheld, 0, unheld, 0, MAX_BAYS);
        }

        boolean isUp(int f) {
            return (up >> f & 1) == 1;
        }

        boolean hasFallen(int b) {
            return (fallen >> b & 1) == 1;
        }

        void comeDown(int f) {
            up &= ~(1 << f);
        }

        void goUp(int f) {
            up |= 1 << f;
        }

        boolean canComeDown(Wall wall, int f) {
            return wall.hasButtress(f) && isUp(f) && !isScared(wall, f);
        }

        boolean canGoUp(Wall wall, int f) {
            return wall.hasButtress(f) && !isUp(f) && tired[f] < wall.bears[f]
                    && !hasFallen(bayOf[f]) && !isScared(wall, f);
        }

        boolean isScared(Wall wall, int f) {
            return wall.hasButtress(f) && wall.kind[f] == SHY && wall.hasCarts(hour);
        }

        int upAt(Wall wall, int b) {
            int there = 0;
            for (int f = 0; f < wall.buttresses && f < MAX_BUTTRESSES; f++) {
                if (isUp(f) && bayOf[f] == b) {
                    there++;
                }
            }
            return there;
        }

        boolean allAtStanding(Wall wall, int set) {
            for (int f = 0; f < wall.buttresses && f < MAX_BUTTRESSES; f++) {
                if (hasBit(set, f) && hasFallen(bayOf[f])) {
                    return false;
                }
            }
            return true;
        }
    }

    /** Weighs a wall, and lets its hours go by. */
    private static final class Clock {
        final int[] raised = new int[MAX_BAYS];
        final int[] load = new int[MAX_BAYS];
        final int[] props = new int[MAX_BAYS];

        /** The bays that are held, of those that have not fallen, as bits; load and props tell of the same then. */
        int heldBays(Wall wall, State state) {
            weighRaised(wall, state);
            for (int b = 0; b < wall.bays && b < MAX_BAYS; b++) {
                load[b] = wall.thrust[b] + thrown(wall, state, b - 1) + thrown(wall, state, b + 1);
            }
            int held = 0;
            for (int b = 0; b < wall.bays && b < MAX_BAYS; b++) {
                props[b] = raised[b] + lent(wall, state, b - 1) + lent(wall, state, b + 1);
                if (props[b] >= load[b]) {
                    held |= 1 << b;
                }
            }
            return held & ~state.fallen;
        }

        private void weighRaised(Wall wall, State state) {
            for (int b = 0; b < MAX_BAYS; b++) {
                raised[b] = 0;
            }
            for (int f = 0; f < wall.buttresses && f < MAX_BUTTRESSES; f++) {
                int b = state.bayOf[f];
                if (state.isUp(f) && wall.hasBay(b)) {
                    raised[b] += wall.strength[f];
                }
            }
        }

        /** What a bay throws on each one next to it once it has fallen. */
        private static int thrown(Wall wall, State state, int b) {
            return wall.hasBay(b) && state.hasFallen(b) ? wall.thrust[b] / 2 : 0;
        }

        /** What a bay that stands lends to each one next to it. */
        private int lent(Wall wall, State state, int b) {
            if (!wall.hasBay(b) || state.hasFallen(b)) {
                return 0;
            }
            return Math.max(0, raised[b] - load[b]) / 2;
        }

        /** An hour goes by: the bays that fall in it, as bits. */
        int goBy(Wall wall, State state) {
            int held = heldBays(wall, state);
            boolean carts = wall.hasCarts(state.hour);
            for (int f = 0; f < wall.buttresses && f < MAX_BUTTRESSES; f++) {
                int change = state.isUp(f) ? tiring(wall, state, f) : -resting(wall, f);
                state.tired[f] = Math.max(0, Math.min(MAX_TIRED, state.tired[f] + change));
            }
            int fell = ageBays(wall, state, held);
            state.fallen |= fell;
            leaveTired(wall, state, carts);
            state.hour++;
            return fell;
        }

        private static int tiring(Wall wall, State state, int f) {
            boolean hard = wall.kind[f] == OLD || wall.kind[f] == YOUNG && isAlone(wall, state, f);
            return hard ? 2 : 1;
        }

        private static int resting(Wall wall, int f) {
            return wall.kind[f] == OLD ? 1 : 2;
        }

        private static boolean isAlone(Wall wall, State state, int f) {
            for (int other = 0; other < wall.buttresses && other < MAX_BUTTRESSES; other++) {
                boolean near = Math.abs(state.bayOf[other] - state.bayOf[f]) <= 1;
                if (other != f && state.isUp(other) && near) {
                    return false;
                }
            }
            return true;
        }

        private static int ageBays(Wall wall, State state, int held) {
            int fell = 0;
            for (int b = 0; b < wall.bays && b < MAX_BAYS; b++) {
                if (state.hasFallen(b)) {
                    continue;
                }
                state.unheld[b] = hasBit(held, b) ? 0 : state.unheld[b] + 1;
                if (state.unheld[b] > wall.patience[b]) {
                    fell |= 1 << b;
                }
            }
            return fell;
        }

        private static void leaveTired(Wall wall, State state, boolean carts) {
            for (int f = 0; f < wall.buttresses && f < MAX_BUTTRESSES; f++) {
                boolean worn = state.tired[f] > wall.bears[f] && !(carts && wall.kind[f] == SHY);
                if (worn || state.hasFallen(state.bayOf[f])) {
                    state.comeDown(f);
                }
            }
        }
    }

    /** What would be, tried on a state of its own. */
    private static final class Trial {
        final State then = new State();
        private final Clock clock = new Clock();
        private int fell;

        void startFrom(State now) {
            then.takeFrom(now);
            fell = 0;
        }

        /** Behind how many hours a bay falls first, or NONE. */
        int fallsBehind(Wall wall, int hours) {
            for (int hour = 0; hour < hours; hour++) {
                fell = clock.goBy(wall, then);
                if (fell != 0) {
                    return hour + 1;
                }
            }
            return NONE;
        }

        int lowestFell() {
            return fell == 0 ? NONE : Integer.numberOfTrailingZeros(fell);
        }

        /** Hours by which trials are put in order: standing throughout is the longest. */
        int standsFor(Wall wall) {
            int hours = fallsBehind(wall, STANDS_HOURS);
            return hours == NONE ? STANDS_HOURS + 1 : hours;
        }

        /** Whether one that is up first comes down, by its knees alone, behind so many hours. */
        boolean givesWayBehind(Wall wall, int f, int hours) {
            for (int hour = 1; hour <= hours; hour++) {
                clock.goBy(wall, then);
                if (!then.isUp(f)) {
                    return hour == hours && wall.hasButtress(f) && !then.hasFallen(then.bayOf[f]);
                }
            }
            return false;
        }

        void followDraw(Wall wall, int draw) {
            if (wall.buttresses <= 0 || wall.bays <= 0) {
                return;
            }
            int f = draw / 8 % wall.buttresses;
            if (!wall.hasButtress(f)) {
                return;
            }
            int deed = draw % 8;
            if (deed == 0 && then.canComeDown(wall, f)) {
                then.comeDown(f);
            } else if ((deed == 1 || deed == 2) && then.canGoUp(wall, f)) {
                then.goUp(f);
            } else if (deed == 3 && !then.isUp(f)) {
                then.bayOf[f] = draw / 64 % wall.bays;
            }
        }
    }

    /** Looks for the first roster, hour by hour, so that a fall ends all the ways that begin alike. */
    private static final class Rosters {
        /** Octal figures, the lowest buttress's first: of two keys the lower is the roster that comes first. */
        private static final int FIGURE = 3, FIGURE_BITS = 7, LAST_KEY = 1 << FIGURE * MAX_BUTTRESSES;
        private final Clock clock = new Clock();
        /** How things are ahead of each hour of the way that is tried. */
        private final State[] ahead = new State[MAX_ROSTER_HOURS + 1];
        private int hours;
        private int firstKey;

        Rosters() {
            for (int i = 0; i <= MAX_ROSTER_HOURS; i++) {
                ahead[i] = new State();
            }
        }

        boolean findFirst(Wall wall, State now, int hoursInAll) {
            hours = Math.min(hoursInAll, MAX_ROSTER_HOURS);
            firstKey = LAST_KEY;
            if (isHopeless(wall, now)) {
                return false;
            }
            ahead[0].takeFrom(now);
            tryHour(wall, 0, now.up, 0);
            return firstKey != LAST_KEY;
        }

        /** No roster has more of them up than are up now; what falls by these falls by every roster. */
        private boolean isHopeless(Wall wall, State now) {
            State then = ahead[0];
            then.takeFrom(now);
            for (int hour = 0; hour < hours; hour++) {
                then.up = now.up;
                if (clock.goBy(wall, then) != 0) {
                    return true;
                }
            }
            return false;
        }

        int hourOf(int f) {
            return firstKey >> figurePlace(f) & FIGURE_BITS;
        }

        /** Key has the hours of all that have been down, and this hour for all that are left to come down. */
        private void tryHour(Wall wall, int hour, int left, int key) {
            if (key >= firstKey) {
                return;
            }
            if (hour >= hours || hour >= MAX_ROSTER_HOURS) {
                firstKey = key;
                return;
            }
            State then = ahead[hour + 1];
            // in the last hour all that are left have to come down
            int fewest = hour == hours - 1 ? left : 0;
            for (int off = left; off >= fewest; off--) {
                if (!isPart(off, left)) {
                    continue;
                }
                then.takeFrom(ahead[hour]);
                then.up &= ~off;
                boolean holds = clock.goBy(wall, then) == 0;
                then.up |= off;
                if (holds) {
                    int stay = left & ~off;
                    tryHour(wall, hour + 1, stay, key + oneHourMore(stay));
                }
            }
        }

        private static int oneHourMore(int set) {
            int key = 0;
            for (int f = 0; f < MAX_BUTTRESSES; f++) {
                key += hasBit(set, f) ? 1 << figurePlace(f) : 0;
            }
            return key;
        }

        private static int figurePlace(int f) {
            return FIGURE * (MAX_BUTTRESSES - 1 - f);
        }
    }

    /** The latest states, for undoing; beyond the last ones the oldest gives way. */
    private static final class Trail {
        private final State[] states = new State[MAX_UNDONE];
        private int next;
        int size;

        Trail() {
            for (int i = 0; i < MAX_UNDONE; i++) {
                states[i] = new State();
            }
        }

        void remember(State now) {
            states[Math.floorMod(next, MAX_UNDONE)].takeFrom(now);
            next++;
            size = Math.min(size + 1, MAX_UNDONE);
        }

        boolean restore(State now) {
            if (size <= 0) {
                return false;
            }
            next--;
            size--;
            now.takeFrom(states[Math.floorMod(next, MAX_UNDONE)]);
            return true;
        }

        void forget() {
            size = 0;
        }
    }
}
