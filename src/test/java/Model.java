import java.math.BigInteger;
import java.util.ArrayDeque;
import java.util.ArrayList;
import java.util.Deque;
import java.util.List;
import java.util.TreeSet;
import java.util.regex.Matcher;
import java.util.regex.Pattern;

/** The document once more, by its words and by other means than the class (lists, copies, orders one by one). */
final class Model {
    private static final int UNKNOWN = -1, OUTSIDE = -2, STATE = -3, FULL = -4, NONE = -9;
    private static final String NUMBER = "(?:[01][0-9][0-9]|2[0-4][0-9]|250)";
    private static final Pattern DESK = Pattern.compile(
        "S([1-6])((?:u" + NUMBER + NUMBER + "(?:0[1-9]|[12][0-9]|30)){0,4})((?:[sm][0-3])*)");

    private static final class User {
        int seed, salt, n, own, last, left;

        User(int seed, int salt, int n) {
            this.seed = seed;
            this.salt = salt;
            this.n = n;
            own = n;
            left = n;
            last = after(seed, salt, n);
        }

        User copy() {
            User copy = new User(seed, salt, n);
            copy.own = own;
            copy.last = last;
            copy.left = left;
            return copy;
        }
    }

    private static final class World {
        final List<User> users = new ArrayList<>();
        int window = 1;
        int wireUser = NONE, wireNumber = NONE;
        final List<int[]> heard = new ArrayList<>();

        World copy() {
            World copy = new World();
            for (User user : users) {
                copy.users.add(user.copy());
            }
            copy.window = window;
            copy.wireUser = wireUser;
            copy.wireNumber = wireNumber;
            copy.heard.addAll(heard);
            return copy;
        }

        boolean can(int user) {
            return user >= 0 && user < users.size() && users.get(user).own > 0;
        }

        int fit(int user, int v) {
            User of = users.get(user);
            for (int k = 1; k <= window && k <= of.left; k++) {
                if (after(v, of.salt, k) == of.last) {
                    return k;
                }
            }
            return 0;
        }

        int comes(int user, int v) {
            int k = fit(user, v);
            wireUser = user;
            wireNumber = v;
            if (k != 0) {
                users.get(user).last = v;
                users.get(user).left -= k;
            }
            return k;
        }

        int sent(int user) {
            User of = users.get(user);
            of.own--;
            return comes(user, after(of.seed, of.salt, of.own));
        }

        int missed(int user) {
            return --users.get(user).own;
        }

        boolean inStep(int user) {
            User of = users.get(user);
            return of.own > 0 && fit(user, after(of.seed, of.salt, of.own - 1)) != 0;
        }

        TreeSet<Integer> fitting(int user) {
            TreeSet<Integer> set = new TreeSet<>();
            for (int v = 0; v <= 250; v++) {
                if (fit(user, v) != 0) {
                    set.add(v);
                }
            }
            return set;
        }
    }

    private final StringBuilder text = new StringBuilder();
    private World world = new World();
    private final Deque<World> acts = new ArrayDeque<>();
    private final World[] slots = new World[2];
    private final List<int[]> seen = new ArrayList<>();
    private long days = 0;

    private static int after(int v, int salt, int k) {
        return k == 0 ? v : after((int) (((long) v * v + salt) % 251), salt, k - 1);
    }

    private static boolean number(int v) {
        return 0 <= v && v <= 250;
    }

    private boolean unknown(int user) {
        return user < 0 || user >= world.users.size();
    }

    private void act() {
        if (acts.size() == 14) {
            acts.removeFirst();
        }
        acts.addLast(world.copy());
    }

    int write(int letter) {
        if (letter < 0 || letter > 255) {
            return OUTSIDE;
        }
        if (text.length() == 80) {
            return FULL;
        }
        text.append((char) letter);
        return text.length();
    }

    int wipe() {
        int length = text.length();
        text.setLength(0);
        return length;
    }

    /** The world that a text tells, null if it is no DESK. */
    private static World told(String text) {
        Matcher matcher = DESK.matcher(text);
        if (!matcher.matches()) {
            return null;
        }
        World told = new World();
        told.window = Integer.parseInt(matcher.group(1));
        String users = matcher.group(2);
        for (int at = 0; at < users.length(); at += 9) {
            told.users.add(new User(Integer.parseInt(users.substring(at + 1, at + 4)),
                Integer.parseInt(users.substring(at + 4, at + 7)), Integer.parseInt(users.substring(at + 7, at + 9))));
        }
        String doings = matcher.group(3);
        for (int at = 0; at < doings.length(); at += 2) {
            int user = doings.charAt(at + 1) - '0';
            if (!told.can(user)) {
                return null;
            }
            if (doings.charAt(at) == 's') {
                told.sent(user);
            } else {
                told.missed(user);
            }
        }
        return told;
    }

    /** By FAULT's own words: whether anything that comes behind it makes a DESK of it. */
    private static boolean canBecomeDesk(String start) {
        for (String rest : new String[] {"", "S1", "0", "1", "2", "3", "01", "001", "0001", "00001", "000001",
            "0000001", "00000001"}) {
            if (told(start + rest) != null) {
                return true;
            }
        }
        return false;
    }

    int fault() {
        String all = text.toString();
        for (int length = 1; length <= all.length(); length++) {
            if (!canBecomeDesk(all.substring(0, length))) {
                return length - 1;
            }
        }
        return told(all) == null ? all.length() : NONE;
    }

    int desk() {
        World told = told(text.toString());
        if (told == null) {
            return STATE;
        }
        world = told;
        acts.clear();
        slots[0] = null;
        slots[1] = null;
        return world.users.size();
    }

    int user(int user, int what) {
        if (unknown(user)) {
            return UNKNOWN;
        }
        User of = world.users.get(user);
        switch (what) {
            case 0: return of.seed;
            case 1: return of.salt;
            case 2: return of.n;
            case 3: return of.own;
            case 4: return of.last;
            case 5: return of.left;
            case 6: return world.inStep(user) ? 1 : 0;
            case 7: return of.left < 4 ? 1 : 0;
            case 8: return gap(user);
            case 9: return tailAndLoop(of)[0];
            case 10: return tailAndLoop(of)[1];
            default: return OUTSIDE;
        }
    }

    private int gap(int user) {
        int most = NONE;
        World tried = world.copy();
        for (int missed = 0; missed <= 30; missed++) {
            if (tried.inStep(user)) {
                most = missed;
            }
            if (!tried.can(user)) {
                break;
            }
            tried.missed(user);
        }
        return most;
    }

    private static int[] tailAndLoop(User of) {
        List<Integer> row = new ArrayList<>();
        int number = of.seed;
        while (!row.contains(number)) {
            row.add(number);
            number = after(number, of.salt, 1);
        }
        return new int[] {row.indexOf(number), row.size() - row.indexOf(number)};
    }

    int pass(int user, int i) {
        if (unknown(user)) {
            return UNKNOWN;
        }
        User of = world.users.get(user);
        return i < 0 || i >= of.n ? NONE : after(of.seed, of.salt, i);
    }

    int behind(int v, int salt, int k) {
        return number(v) && number(salt) && k >= 0 && k <= 99 ? after(v, salt, k) : OUTSIDE;
    }

    int send(int user) {
        if (unknown(user)) {
            return UNKNOWN;
        }
        if (!world.can(user)) {
            return STATE;
        }
        act();
        return world.sent(user);
    }

    int miss(int user) {
        if (unknown(user)) {
            return UNKNOWN;
        }
        if (!world.can(user)) {
            return STATE;
        }
        act();
        return world.missed(user);
    }

    int attempt(int user, int v) {
        if (unknown(user)) {
            return UNKNOWN;
        }
        if (!number(v)) {
            return OUTSIDE;
        }
        act();
        return world.comes(user, v);
    }

    int hear() {
        if (world.wireUser == NONE) {
            return STATE;
        }
        if (world.heard.size() == 8) {
            return FULL;
        }
        act();
        world.heard.add(new int[] {world.wireUser, world.wireNumber});
        return world.wireNumber;
    }

    int renew(int user, int seed, int salt, int n) {
        if (unknown(user)) {
            return UNKNOWN;
        }
        if (!number(seed) || !number(salt) || n < 1 || n > 30) {
            return OUTSIDE;
        }
        if (!world.can(user)) {
            return STATE;
        }
        act();
        User of = world.users.get(user);
        int v = after(of.seed, of.salt, of.own - 1);
        int k = world.fit(user, v);
        world.wireUser = user;
        world.wireNumber = v;
        if (k == 0) {
            of.own--;
        } else {
            world.users.set(user, new User(seed, salt, n));
        }
        return k;
    }

    int widen(int w) {
        if (w < 1 || w > 6) {
            return OUTSIDE;
        }
        act();
        int was = world.window;
        world.window = w;
        return was;
    }

    int undo() {
        if (acts.isEmpty()) {
            return STATE;
        }
        world = acts.removeLast();
        return acts.size();
    }

    int fits(int user, int v) {
        if (unknown(user)) {
            return UNKNOWN;
        }
        return number(v) ? world.fit(user, v) : OUTSIDE;
    }

    int fitting(int user, int what) {
        if (unknown(user)) {
            return UNKNOWN;
        }
        if (what != 0 && what != 1) {
            return OUTSIDE;
        }
        TreeSet<Integer> set = world.fitting(user);
        if (what == 0) {
            return set.size();
        }
        return set.isEmpty() ? NONE : set.first();
    }

    int thief(int user) {
        if (unknown(user)) {
            return UNKNOWN;
        }
        TreeSet<Integer> set = new TreeSet<>();
        for (int[] one : world.heard) {
            for (int k = 0; one[0] == user && k <= 10; k++) {
                set.add(after(one[1], world.users.get(user).salt, k));
            }
        }
        set.retainAll(world.fitting(user));
        return set.isEmpty() ? NONE : set.first();
    }

    int heard(int i) {
        return i < 0 || i >= world.heard.size() ? NONE : 1000 * world.heard.get(i)[0] + world.heard.get(i)[1];
    }

    int judge(int n, long row) {
        if (n < 1 || n > 4 || row < 0 || Long.toString(row).length() > 4 * n) {
            return OUTSIDE;
        }
        StringBuilder figures = new StringBuilder(Long.toString(row));
        while (figures.length() < 4 * n) {
            figures.insert(0, '0');
        }
        World mind = world.copy();
        for (int place = 0; place < n; place++) {
            if (!judged(mind, figures.substring(4 * place, 4 * place + 4))) {
                return place;
            }
        }
        return NONE;
    }

    private static boolean judged(World mind, String doing) {
        int a = doing.charAt(1) - '0';
        String rest = doing.substring(2);
        boolean known = a < mind.users.size();
        switch (doing.charAt(0)) {
            case '1':
                if (!rest.equals("00") || !mind.can(a)) {
                    return false;
                }
                mind.sent(a);
                return true;
            case '2':
                if (!rest.equals("00") || !mind.can(a)) {
                    return false;
                }
                mind.missed(a);
                return true;
            case '3': return known && mind.users.get(a).own == Integer.parseInt(rest);
            case '4': return known && mind.users.get(a).left == Integer.parseInt(rest);
            case '5':
                for (int user = 0; user < mind.users.size(); user++) {
                    if (mind.fitting(user).contains(Integer.parseInt(doing.substring(1)))) {
                        return true;
                    }
                }
                return false;
            case '6': return known && rest.equals(mind.inStep(a) ? "01" : "00");
            case '7':
                if (!rest.equals("00") || a < 1 || a > 6) {
                    return false;
                }
                mind.window = a;
                return true;
            default: return false;
        }
    }

    int see(int user, int i, int v) {
        if (user < 0 || user > 3) {
            return UNKNOWN;
        }
        if (i < 0 || i > 29 || !number(v)) {
            return OUTSIDE;
        }
        if (seen.size() == 6) {
            return FULL;
        }
        seen.add(new int[] {user, i, v});
        return seen.size();
    }

    int unsee() {
        int size = seen.size();
        seen.clear();
        return size;
    }

    int which(int what) {
        if (what != 0 && what != 1) {
            return OUTSIDE;
        }
        TreeSet<Integer> seeds = new TreeSet<>();
        for (int seed = 0; seed <= 250; seed++) {
            seeds.add(seed);
        }
        for (int[] one : seen) {
            if (!unknown(one[0])) {
                int salt = world.users.get(one[0]).salt;
                seeds.removeIf(seed -> after(seed, salt, one[1]) != one[2]);
            }
        }
        if (what == 0) {
            return seeds.size();
        }
        return seeds.isEmpty() ? NONE : seeds.first();
    }

    private static int least(BigInteger above, BigInteger below, boolean upper) {
        BigInteger common = above.gcd(below);
        return (upper ? above : below).divide(common).intValueExact();
    }

    int share(int user, boolean upper) {
        if (unknown(user)) {
            return UNKNOWN;
        }
        List<TreeSet<Integer>> sets = new ArrayList<>();
        List<Integer> all = new ArrayList<>();
        for (int other = 0; other < world.users.size(); other++) {
            sets.add(world.fitting(other));
            all.add(other);
        }
        List<List<Integer>> orders = new ArrayList<>();
        orders(new ArrayList<>(), all, orders);
        long more = 0;
        for (List<Integer> order : orders) {
            TreeSet<Integer> own = new TreeSet<>(sets.get(user));
            for (int other : order) {
                if (other == user) {
                    break;
                }
                own.removeAll(sets.get(other));
            }
            more += own.size();
        }
        return least(BigInteger.valueOf(more), BigInteger.valueOf(orders.size()), upper);
    }

    private static void orders(List<Integer> begun, List<Integer> rest, List<List<Integer>> into) {
        if (rest.isEmpty()) {
            into.add(begun);
        }
        for (Integer one : rest) {
            List<Integer> longer = new ArrayList<>(begun);
            longer.add(one);
            List<Integer> others = new ArrayList<>(rest);
            others.remove(one);
            orders(longer, others, into);
        }
    }

    int guess(int user, int n, boolean upper) {
        if (unknown(user)) {
            return UNKNOWN;
        }
        if (n < 0 || n > 3) {
            return OUTSIDE;
        }
        // One more guess: either one fitted already, or none did and this one does.
        BigInteger fitting = BigInteger.valueOf(world.fitting(user).size());
        BigInteger all = BigInteger.valueOf(251);
        BigInteger above = BigInteger.ZERO;
        BigInteger below = BigInteger.ONE;
        for (int i = 0; i < n; i++) {
            above = above.multiply(all).add(below.subtract(above).multiply(fitting));
            below = below.multiply(all);
        }
        return least(above, below, upper);
    }

    int loss(int user, int r, int x, boolean upper) {
        if (unknown(user)) {
            return UNKNOWN;
        }
        if (r < 0 || r > 6 || x < 0 || x > 10) {
            return OUTSIDE;
        }
        if (r > world.users.get(user).own) {
            return STATE;
        }
        return least(BigInteger.valueOf(lossAbove(world, user, r, x)), BigInteger.TEN.pow(r), upper);
    }

    private static long lossAbove(World from, int user, int r, int x) {
        if (r == 0) {
            return from.inStep(user) ? 1 : 0;
        }
        World lost = from.copy();
        lost.missed(user);
        World came = from.copy();
        came.sent(user);
        return x * lossAbove(lost, user, r - 1, x) + (10 - x) * lossAbove(came, user, r - 1, x);
    }

    long seed(long v) {
        long was = days;
        days = v;
        return was;
    }

    int drawn(int m) {
        if (m < 1 || m > 60) {
            return OUTSIDE;
        }
        World mind = world.copy();
        int taken = 0;
        for (int day = 0; day < m; day++) {
            days = days * 6364136223846793005L + 1442695040888963407L;
            int v = (int) (days >>> 33);
            if (!mind.can(v % 4)) {
                continue;
            }
            if (v / 4 % 4 == 0) {
                mind.missed(v % 4);
            } else if (mind.sent(v % 4) != 0) {
                taken++;
            }
        }
        return taken;
    }

    int keep(int slot) {
        if (slot != 0 && slot != 1) {
            return UNKNOWN;
        }
        slots[slot] = world.copy();
        return world.users.size();
    }

    int again(int slot) {
        if (slot != 0 && slot != 1) {
            return UNKNOWN;
        }
        if (slots[slot] == null) {
            return STATE;
        }
        world = slots[slot].copy();
        acts.clear();
        return world.users.size();
    }

    int count(int what) {
        switch (what) {
            case 0: return text.length();
            case 1: return world.users.size();
            case 2: return world.window;
            case 3: return world.wireUser == NONE ? NONE : 1000 * world.wireUser + world.wireNumber;
            case 4: return world.heard.size();
            case 5: return acts.size();
            case 6: return seen.size();
            default: return OUTSIDE;
        }
    }
}
