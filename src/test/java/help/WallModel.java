import java.util.ArrayList;
import java.util.List;
import java.util.regex.Matcher;
import java.util.regex.Pattern;

/**
 * The document once more, told as plainly as can be and without any thought of speed: every trial is made on
 * copies, every set and every roster is gone through one by one. RandomRunsTest holds the class against it.
 */
final class WallModel {
    static final int BAD = -1, NO = -2, FULL = -3, NONE = -4;
    static final String FIRST = "b20,3;b35,2;b40,2;b30,4;b15,6;f0,25,1,10;f1,15,0,6;f2,30,2,8;f3,20,3,12;"
            + "f0,18,4,9;f2,22,1,7;c0;c0;c1;c0;d4;";
    private static final Pattern ITEM = Pattern.compile("([bfcd])(\\d{1,2}(?:,\\d{1,2})*);");

    static final class Bay {
        int thrust, patience, unheld;
        boolean fallen;

        Bay copy() {
            Bay b = new Bay();
            b.thrust = thrust;
            b.patience = patience;
            b.unheld = unheld;
            b.fallen = fallen;
            return b;
        }
    }

    static final class Buttress {
        int kind, strength, at, bears, tired;
        boolean up = true;

        Buttress copy() {
            Buttress f = new Buttress();
            f.kind = kind;
            f.strength = strength;
            f.at = at;
            f.bears = bears;
            f.tired = tired;
            f.up = up;
            return f;
        }
    }

    static final class Site {
        final List<Bay> bays = new ArrayList<>();
        final List<Buttress> buttresses = new ArrayList<>();
        final List<Integer> carts = new ArrayList<>();
        int hour;

        Site copy() {
            Site s = new Site();
            for (Bay b : bays) {
                s.bays.add(b.copy());
            }
            for (Buttress f : buttresses) {
                s.buttresses.add(f.copy());
            }
            s.carts.addAll(carts);
            s.hour = hour;
            return s;
        }

        boolean cartsIn(int h) {
            return !carts.isEmpty() && carts.get(h % carts.size()) == 1;
        }

        List<Bay> nextTo(int b) {
            List<Bay> near = new ArrayList<>();
            if (b > 0) {
                near.add(bays.get(b - 1));
            }
            if (b < bays.size() - 1) {
                near.add(bays.get(b + 1));
            }
            return near;
        }

        int load(int b) {
            int sum = bays.get(b).thrust;
            for (Bay near : nextTo(b)) {
                sum += near.fallen ? near.thrust / 2 : 0;
            }
            return sum;
        }

        int strengthsAt(int b) {
            return buttresses.stream().filter(f -> f.up && f.at == b).mapToInt(f -> f.strength).sum();
        }

        int props(int b) {
            int sum = strengthsAt(b);
            for (Bay near : nextTo(b)) {
                int over = strengthsAt(bays.indexOf(near)) - load(bays.indexOf(near));
                if (!near.fallen && over > 0) {
                    sum += over / 2;
                }
            }
            return sum;
        }

        boolean held(int b) {
            return props(b) >= load(b);
        }

        int heldBits() {
            int bits = 0;
            for (int b = 0; b < bays.size(); b++) {
                bits |= !bays.get(b).fallen && held(b) ? 1 << b : 0;
            }
            return bits;
        }

        int fallenBits() {
            int bits = 0;
            for (int b = 0; b < bays.size(); b++) {
                bits |= bays.get(b).fallen ? 1 << b : 0;
            }
            return bits;
        }

        int upBits() {
            int bits = 0;
            for (int f = 0; f < buttresses.size(); f++) {
                bits |= buttresses.get(f).up ? 1 << f : 0;
            }
            return bits;
        }

        boolean shyNow(Buttress f) {
            return f.kind == 3 && cartsIn(hour);
        }

        boolean canDown(Buttress f) {
            return f.up && !shyNow(f);
        }

        boolean canUp(Buttress f) {
            return !f.up && f.tired < f.bears && !bays.get(f.at).fallen && !shyNow(f);
        }

        int tiring(Site ahead, Buttress f) {
            switch (f.kind) {
                case 2:
                    return 2;
                case 1:
                    long near = ahead.buttresses.stream()
                            .filter(g -> g.up && (g.at == f.at || g.at == f.at - 1 || g.at == f.at + 1)).count();
                    return near == 1 ? 2 : 1;
                default:
                    return 1;
            }
        }

        void passHour() {
            Site ahead = copy();
            for (Buttress f : buttresses) {
                int change = f.up ? tiring(ahead, f) : f.kind == 2 ? -1 : -2;
                f.tired = Math.min(99, Math.max(0, f.tired + change));
            }
            for (int b = 0; b < bays.size(); b++) {
                Bay bay = bays.get(b);
                if (bay.fallen) {
                    continue;
                }
                bay.unheld = ahead.held(b) ? 0 : bay.unheld + 1;
                bay.fallen = bay.unheld > bay.patience;
            }
            for (Buttress f : buttresses) {
                if (f.up && f.tired > f.bears && !shyNow(f)) {
                    f.up = false;
                }
                if (bays.get(f.at).fallen) {
                    f.up = false;
                }
            }
            hour++;
        }

        /** How many hours until a bay falls, 0 for none within so many; the lowest such bay behind it. */
        int[] firstFall(int hours) {
            Site s = copy();
            for (int h = 1; h <= hours; h++) {
                int before = s.fallenBits();
                s.passHour();
                int fell = s.fallenBits() & ~before;
                if (fell != 0) {
                    return new int[] {h, Integer.numberOfTrailingZeros(fell)};
                }
            }
            return new int[] {0, 0};
        }

        int standsFor() {
            int h = firstFall(60)[0];
            return h == 0 ? 1000 : h;
        }

        boolean setStands(int set) {
            for (int f = 0; f < buttresses.size(); f++) {
                if ((set >> f & 1) == 1 && bays.get(buttresses.get(f).at).fallen) {
                    return false;
                }
            }
            return true;
        }

        Site withUp(int set) {
            Site s = copy();
            for (int f = 0; f < buttresses.size(); f++) {
                s.buttresses.get(f).up = (set >> f & 1) == 1;
            }
            return s;
        }
    }

    private final StringBuilder text = new StringBuilder();
    private Site now;
    private final List<Site> past = new ArrayList<>();
    private final List<Site> kept = new ArrayList<>();

    WallModel() {
        now = new Site();
        parse(FIRST, now);
    }

    private static int parse(String text, Site into) {
        Matcher m = ITEM.matcher(text);
        int place = 0;
        while (place < text.length()) {
            m.region(place, text.length());
            if (!m.lookingAt() || !take(m.group(1).charAt(0), m.group(2).split(","), into)) {
                return place;
            }
            place = m.end();
        }
        return NONE;
    }

    private static boolean take(char letter, String[] figures, Site into) {
        int[] n = new int[figures.length];
        for (int i = 0; i < n.length; i++) {
            n[i] = Integer.parseInt(figures[i]);
        }
        switch (letter) {
            case 'b': {
                if (n.length != 2 || n[1] > 20 || into.bays.size() == 8) {
                    return false;
                }
                Bay b = new Bay();
                b.thrust = n[0];
                b.patience = n[1];
                return into.bays.add(b);
            }
            case 'f': {
                if (n.length != 4 || n[0] > 3 || n[1] < 1 || n[2] >= into.bays.size() || n[3] < 1 || n[3] > 30
                        || into.buttresses.size() == 6) {
                    return false;
                }
                Buttress f = new Buttress();
                f.kind = n[0];
                f.strength = n[1];
                f.at = n[2];
                f.bears = n[3];
                return into.buttresses.add(f);
            }
            case 'c':
                return n.length == 1 && n[0] < 2 && into.carts.size() < 12 && into.carts.add(n[0]);
            default:
                if (n.length != 1 || n[0] >= into.buttresses.size()) {
                    return false;
                }
                into.buttresses.get(n[0]).up = false;
                return true;
        }
    }

    private boolean noBay(int b) {
        return b < 0 || b >= now.bays.size();
    }

    private boolean noButtress(int f) {
        return f < 0 || f >= now.buttresses.size();
    }

    private void remember() {
        past.add(now.copy());
        if (past.size() > 8) {
            past.remove(0);
        }
    }

    int write(int letter) {
        if (letter < 32 || letter > 126) {
            return BAD;
        }
        if (text.length() == 200) {
            return FULL;
        }
        return text.append((char) letter).length();
    }

    int wipe() {
        int was = text.length();
        text.setLength(0);
        return was;
    }

    int fault() {
        return parse(text.toString(), new Site());
    }

    int lay() {
        Site s = new Site();
        if (parse(text.toString(), s) != NONE || s.bays.isEmpty()) {
            return NO;
        }
        now = s;
        past.clear();
        kept.clear();
        return s.bays.size();
    }

    int bay(int b, int what) {
        if (noBay(b) || what < 0 || what > 6) {
            return BAD;
        }
        Bay bay = now.bays.get(b);
        if (bay.fallen && what >= 2 && what <= 5) {
            return 0;
        }
        return new int[] {bay.thrust, bay.patience, now.load(b), now.props(b), now.held(b) ? 1 : 0, bay.unheld,
            bay.fallen ? 1 : 0}[what];
    }

    int buttress(int f, int what) {
        if (noButtress(f) || what < 0 || what > 5) {
            return BAD;
        }
        Buttress x = now.buttresses.get(f);
        return new int[] {x.kind, x.strength, x.at, x.bears, x.tired, x.up ? 1 : 0}[what];
    }

    int carts(int n) {
        return n < 0 || n > 99 ? BAD : now.cartsIn(now.hour + n) ? 1 : 0;
    }

    int pass(int n) {
        if (n < 1 || n > 24) {
            return BAD;
        }
        remember();
        for (int i = 0; i < n; i++) {
            now.passHour();
        }
        return now.hour;
    }

    int down(int f) {
        if (noButtress(f)) {
            return BAD;
        }
        if (!now.canDown(now.buttresses.get(f))) {
            return NO;
        }
        remember();
        now.buttresses.get(f).up = false;
        return now.buttresses.get(f).tired;
    }

    int up(int f) {
        if (noButtress(f)) {
            return BAD;
        }
        Buttress x = now.buttresses.get(f);
        if (!now.canUp(x)) {
            return NO;
        }
        remember();
        x.up = true;
        return (int) now.buttresses.stream().filter(g -> g.up && g.at == x.at).count();
    }

    int send(int f, int b) {
        if (noButtress(f) || noBay(b)) {
            return BAD;
        }
        if (now.buttresses.get(f).up) {
            return NO;
        }
        remember();
        int was = now.buttresses.get(f).at;
        now.buttresses.get(f).at = b;
        return was;
    }

    int undo() {
        if (past.isEmpty()) {
            return NO;
        }
        now = past.remove(past.size() - 1);
        return past.size();
    }

    int stands(int what) {
        if (what < 0 || what > 1) {
            return BAD;
        }
        int[] fall = now.firstFall(60);
        return fall[0] == 0 ? NONE : fall[what];
    }

    int needed() {
        int best = NONE;
        for (int set = 0; set < 1 << now.buttresses.size(); set++) {
            boolean does = now.setStands(set) && now.withUp(set).firstFall(12)[0] == 0;
            if (does && (best == NONE || Integer.bitCount(set) < Integer.bitCount(best))) {
                best = set;
            }
        }
        return best;
    }

    int cuts() {
        int best = NONE;
        int up = now.upBits();
        for (int set = 0; set < 1 << now.buttresses.size(); set++) {
            boolean does = (set & up) == set && now.withUp(up ^ set).firstFall(24)[0] != 0;
            if (does && (best == NONE || Integer.bitCount(set) < Integer.bitCount(best))) {
                best = set;
            }
        }
        return best;
    }

    private boolean rosterHolds(int[] hourOf, int hours) {
        Site s = now.copy();
        int before = s.fallenBits();
        for (int h = 0; h < hours; h++) {
            for (int f = 0; f < hourOf.length; f++) {
                Buttress x = s.buttresses.get(f);
                if (hourOf[f] == h) {
                    x.up = false;
                } else if (hourOf[f] >= 0 && hourOf[f] == h - 1 && !s.bays.get(x.at).fallen) {
                    x.up = true;
                }
            }
            s.passHour();
        }
        return s.fallenBits() == before;
    }

    /** All ways in order, as numbers whose first figure is the hour of the lowest. */
    private int[] firstRoster(int hours) {
        int size = now.buttresses.size();
        int ways = 1;
        for (int i = 0; i < Integer.bitCount(now.upBits()); i++) {
            ways *= hours;
        }
        for (int way = 0; way < ways; way++) {
            int[] hourOf = new int[size];
            int rest = way;
            for (int f = size - 1; f >= 0; f--) {
                hourOf[f] = -1;
                if (now.buttresses.get(f).up) {
                    hourOf[f] = rest % hours;
                    rest /= hours;
                }
            }
            if (rosterHolds(hourOf, hours)) {
                return hourOf;
            }
        }
        return null;
    }

    int roster(int n, int f) {
        if (n < 1 || n > 5 || f != -1 && noButtress(f)) {
            return BAD;
        }
        int[] first = firstRoster(n);
        if (first == null || f >= 0 && !now.buttresses.get(f).up) {
            return NONE;
        }
        return f == -1 ? 1 : first[f];
    }

    int place(int f) {
        if (noButtress(f)) {
            return BAD;
        }
        if (now.buttresses.get(f).up) {
            return NO;
        }
        int best = NONE;
        int longest = -1;
        for (int b = 0; b < now.bays.size(); b++) {
            if (now.bays.get(b).fallen) {
                continue;
            }
            Site s = now.copy();
            s.buttresses.get(f).at = b;
            s.buttresses.get(f).up = true;
            if (s.standsFor() > longest) {
                longest = s.standsFor();
                best = b;
            }
        }
        return best;
    }

    int strong(int f) {
        if (noButtress(f)) {
            return BAD;
        }
        Site s = now.copy();
        s.buttresses.get(f).strength = 99;
        int longest = s.standsFor();
        for (int strength = 1;; strength++) {
            s.buttresses.get(f).strength = strength;
            if (s.standsFor() == longest) {
                return strength;
            }
        }
    }

    int who(int bays, int what) {
        if (bays < 0 || bays >= 1 << now.bays.size() || what < 0 || what > 1) {
            return BAD;
        }
        List<Integer> sets = new ArrayList<>();
        for (int set = 0; set < 1 << now.buttresses.size(); set++) {
            if (now.setStands(set) && now.withUp(set).heldBits() == bays) {
                sets.add(set);
            }
        }
        return what == 0 ? sets.size() : sets.isEmpty() ? NONE : sets.get(0);
    }

    int knees(int f, int n) {
        if (noButtress(f) || n < 1 || n > 40) {
            return BAD;
        }
        if (!now.buttresses.get(f).up) {
            return NO;
        }
        int bits = 0;
        for (int l = 1; l <= 30; l++) {
            Site s = now.copy();
            Buttress x = s.buttresses.get(f);
            x.bears = l;
            int h = 0;
            while (h < n && x.up) {
                s.passHour();
                h++;
            }
            bits |= h == n && !x.up && !s.bays.get(x.at).fallen ? 1 << l : 0;
        }
        return bits;
    }

    int shirkers(int x, int part) {
        if (x < 0 || x > 10 || part < 0 || part > 1) {
            return BAD;
        }
        long above = 0;
        int up = now.upBits();
        long below = Math.round(Math.pow(10, Integer.bitCount(up)));
        for (int set = 0; set < 1 << now.buttresses.size(); set++) {
            if ((set & up) != set) {
                continue;
            }
            Site s = now.withUp(up ^ set);
            int before = s.fallenBits();
            s.passHour();
            for (int f = 0; f < now.buttresses.size(); f++) {
                Buttress g = s.buttresses.get(f);
                if ((set >> f & 1) == 1 && !s.bays.get(g.at).fallen) {
                    g.up = true;
                }
            }
            for (int h = 1; h < 12; h++) {
                s.passHour();
            }
            if (s.fallenBits() == before) {
                above += Math.round(Math.pow(x, Integer.bitCount(set))
                        * Math.pow(10 - x, Integer.bitCount(up ^ set)));
            }
        }
        for (int prime = 2; prime <= 5; prime += 3) {
            while (above % prime == 0 && below % prime == 0) {
                above /= prime;
                below /= prime;
            }
        }
        return (int) (part == 0 ? above : below);
    }

    int night(int z, int n, int what) {
        if (z < 0 || z > 9999 || n < 1 || n > 60 || what < 0 || what > 1) {
            return BAD;
        }
        Site s = now.copy();
        for (long k = 0; k < n; k++) {
            long x = 7919L * z + 6151 * k + 1;
            int draw = (int) (x * x % 65521);
            if (!s.buttresses.isEmpty()) {
                Buttress f = s.buttresses.get(draw / 8 % s.buttresses.size());
                switch (draw % 8) {
                    case 0:
                        f.up = f.up && !s.canDown(f);
                        break;
                    case 1:
                    case 2:
                        f.up = f.up || s.canUp(f);
                        break;
                    case 3:
                        f.at = f.up ? f.at : draw / 64 % s.bays.size();
                        break;
                    default:
                }
            }
            s.passHour();
        }
        return Integer.bitCount(what == 0 ? s.fallenBits() : s.upBits());
    }

    int keep() {
        if (kept.size() == 2) {
            return FULL;
        }
        kept.add(now.copy());
        return kept.size();
    }

    int back() {
        if (kept.isEmpty()) {
            return NO;
        }
        now = kept.remove(kept.size() - 1);
        past.clear();
        return kept.size();
    }

    int count(int what) {
        if (what < 0 || what > 8) {
            return BAD;
        }
        return new int[] {now.bays.size(), now.buttresses.size(), now.hour, Integer.bitCount(now.upBits()),
            Integer.bitCount(now.heldBits()), Integer.bitCount(now.fallenBits()), past.size(), kept.size(),
            text.length()}[what];
    }
}
