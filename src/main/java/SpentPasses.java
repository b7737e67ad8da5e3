import java.util.Arrays;

/** Rows of toy passes that are spent backwards, and the desk that takes them: see ../shared/DOC.md. */
public final class SpentPasses {
    public static final int UNKNOWN = -1, OUTSIDE = -2, STATE = -3, FULL = -4, NONE = -9;

    /** NUMBERS are 0 to NUMBERS less 1. */
    private static final int NUMBERS = 251;
    private static final int MOST_USERS = 4;
    private static final int MOST_PASSES = 30;
    private static final int MOST_WINDOW = 6;
    private static final int MOST_STEPS = 99;
    private static final int MOST_GUESSES = 3;
    private static final int MOST_LOSSES = 6;
    private static final int MOST_DAYS = 60;
    private static final int MOST_DOINGS = 4;
    private static final int TENTHS = 10;

    private final Text text;
    private final Hall now;
    /** What is only done in mind is done here, so that nothing changes in now. */
    private final Hall trial;
    private final Shelf shelf;
    private final Seen seen;
    private long days;

    public SpentPasses() {
        text = new Text();
        now = new Hall();
        trial = new Hall();
        shelf = new Shelf();
        seen = new Seen();
        days = 0;
    }

    // ---- the desk

    public int write(int letter) {
        if (letter < 0 || letter > 255) {
            return OUTSIDE;
        }
        return text.append(letter) ? text.length : FULL;
    }

    public int wipe() {
        int length = text.length;
        text.length = 0;
        return length;
    }

    public int fault() {
        return text.readInto(trial);
    }

    public int desk() {
        if (text.readInto(trial) != NONE) {
            return STATE;
        }
        now.copyFrom(trial);
        shelf.forgetAll();
        return now.users();
    }

    public int user(int user, int what) {
        if (!now.has(user)) {
            return UNKNOWN;
        }
        switch (what) {
            case 0: return now.of(user, Hall.SEED);
            case 1: return now.of(user, Hall.SALT);
            case 2: return now.of(user, Hall.N);
            case 3: return now.of(user, Hall.OWN);
            case 4: return now.of(user, Hall.LAST);
            case 5: return now.of(user, Hall.LEFT);
            case 6: return now.isInStep(user) ? 1 : 0;
            case 7: return now.isWarned(user) ? 1 : 0;
            case 8: return now.gapOf(user);
            case 9: return tailOf(now.of(user, Hall.SEED), now.of(user, Hall.SALT));
            case 10: return loopOf(now.of(user, Hall.SEED), now.of(user, Hall.SALT));
            default: return OUTSIDE;
        }
    }

    public int pass(int user, int i) {
        if (!now.has(user)) {
            return UNKNOWN;
        }
        return i >= 0 && i < now.of(user, Hall.N) ? now.passOf(user, i) : NONE;
    }

    public int behind(int v, int salt, int k) {
        if (!isNumber(v) || !isNumber(salt) || !isWithin(k, 0, MOST_STEPS)) {
            return OUTSIDE;
        }
        return stepsBehind(v, salt, k);
    }

    // ---- acts

    public int send(int user) {
        if (!now.has(user)) {
            return UNKNOWN;
        }
        if (!now.hasOwn(user)) {
            return STATE;
        }
        shelf.remember(now);
        return now.sendPass(user);
    }

    public int miss(int user) {
        if (!now.has(user)) {
            return UNKNOWN;
        }
        if (!now.hasOwn(user)) {
            return STATE;
        }
        shelf.remember(now);
        now.spendPass(user);
        return now.of(user, Hall.OWN);
    }

    public int attempt(int user, int v) {
        if (!now.has(user)) {
            return UNKNOWN;
        }
        if (!isNumber(v)) {
            return OUTSIDE;
        }
        shelf.remember(now);
        return now.bring(user, v);
    }

    public int hear() {
        if (now.wire() == NONE) {
            return STATE;
        }
        if (now.heardCount() >= Hall.MOST_HEARD) {
            return FULL;
        }
        shelf.remember(now);
        now.overhear();
        return Hall.numberIn(now.wire());
    }

    public int renew(int user, int seed, int salt, int n) {
        if (!now.has(user)) {
            return UNKNOWN;
        }
        if (!isNumber(seed) || !isNumber(salt) || !isWithin(n, 1, MOST_PASSES)) {
            return OUTSIDE;
        }
        if (!now.hasOwn(user)) {
            return STATE;
        }
        shelf.remember(now);
        int k = now.sendPass(user);
        if (k > 0) {
            now.beginRow(user, seed, salt, n);
        }
        return k;
    }

    public int widen(int w) {
        if (!isWithin(w, 1, MOST_WINDOW)) {
            return OUTSIDE;
        }
        shelf.remember(now);
        int old = now.window();
        now.setWindow(w);
        return old;
    }

    public int undo() {
        return shelf.takeBack(now) ? shelf.acts : STATE;
    }

    // ---- asked

    public int fits(int user, int v) {
        if (!now.has(user)) {
            return UNKNOWN;
        }
        return isNumber(v) ? now.fitOf(user, v) : OUTSIDE;
    }

    public int fitting(int user, int what) {
        if (!now.has(user)) {
            return UNKNOWN;
        }
        switch (what) {
            case 0: return now.countFitting(user);
            case 1: return now.leastFitting(user);
            default: return OUTSIDE;
        }
    }

    public int thief(int user) {
        return now.has(user) ? now.leastStolen(user) : UNKNOWN;
    }

    public int heard(int i) {
        return now.heardAt(i);
    }

    public int judge(int n, long row) {
        if (!isWithin(n, 1, MOST_DOINGS) || row < 0 || withoutDoings(row, n) != 0) {
            return OUTSIDE;
        }
        trial.copyFrom(now);
        for (int place = 0; place < n; place++) {
            int doing = (int) (withoutDoings(row, n - 1 - place) % 10000);
            if (!isSo(doing)) {
                return place;
            }
        }
        return NONE;
    }

    // ---- seen

    public int see(int user, int i, int v) {
        if (!isWithin(user, 0, MOST_USERS - 1)) {
            return UNKNOWN;
        }
        if (!isWithin(i, 0, MOST_PASSES - 1) || !isNumber(v)) {
            return OUTSIDE;
        }
        return seen.add(user, i, v) ? seen.size : FULL;
    }

    public int unsee() {
        int size = seen.size;
        seen.size = 0;
        return size;
    }

    public int which(int what) {
        switch (what) {
            case 0: return seen.countSeeds(now);
            case 1: return seen.leastSeed(now);
            default: return OUTSIDE;
        }
    }

    // ---- shares, chances

    public int share(int user, boolean upper) {
        if (!now.has(user)) {
            return UNKNOWN;
        }
        // A NUMBER counts for the first that comes of the users it fits, and each of these is as likely the first.
        long twelfths = 0;
        for (int v = 0; v < NUMBERS; v++) {
            int among = now.fitOf(user, v) > 0 ? now.countFitted(v) : 0;
            if (among > 0) {
                twelfths += 12 / among;
            }
        }
        return toldFraction(twelfths, 12, upper);
    }

    public int guess(int user, int n, boolean upper) {
        if (!now.has(user)) {
            return UNKNOWN;
        }
        if (!isWithin(n, 0, MOST_GUESSES)) {
            return OUTSIDE;
        }
        long all = power(NUMBERS, n);
        long wrong = power(NUMBERS - now.countFitting(user), n);
        return toldFraction(all - wrong, all, upper);
    }

    public int loss(int user, int r, int x, boolean upper) {
        if (!now.has(user)) {
            return UNKNOWN;
        }
        if (!isWithin(r, 0, MOST_LOSSES) || !isWithin(x, 0, TENTHS)) {
            return OUTSIDE;
        }
        if (r > now.of(user, Hall.OWN)) {
            return STATE;
        }
        long good = 0;
        for (int lost = 0; lost < 1 << r; lost++) {
            good += weightInStep(user, r, x, lost);
        }
        return toldFraction(good, power(TENTHS, r), upper);
    }

    public long seed(long v) {
        long old = days;
        days = v;
        return old;
    }

    public int drawn(int m) {
        if (!isWithin(m, 1, MOST_DAYS)) {
            return OUTSIDE;
        }
        trial.copyFrom(now);
        int taken = 0;
        for (int day = 0; day < m; day++) {
            days = days * 6364136223846793005L + 1442695040888963407L;
            if (isTakenOnDay((int) (days >>> 33))) {
                taken++;
            }
        }
        return taken;
    }

    // ---- slots

    public int keep(int slot) {
        return shelf.keepIn(slot, now) ? now.users() : UNKNOWN;
    }

    public int again(int slot) {
        if (!isWithin(slot, 0, Shelf.SLOTS - 1)) {
            return UNKNOWN;
        }
        return shelf.bringBack(slot, now) ? now.users() : STATE;
    }

    public int count(int what) {
        switch (what) {
            case 0: return text.length;
            case 1: return now.users();
            case 2: return now.window();
            case 3: return now.wire();
            case 4: return now.heardCount();
            case 5: return shelf.acts;
            case 6: return seen.size;
            default: return OUTSIDE;
        }
    }

    // ---- numbers

    private static boolean isWithin(int v, int low, int high) {
        return v >= low && v <= high;
    }

    private static boolean isNumber(int v) {
        return isWithin(v, 0, NUMBERS - 1);
    }

    private static int stepsBehind(int v, int salt, int k) {
        int result = v;
        for (int step = 0; step < k; step++) {
            result = (result * result + salt) % NUMBERS;
        }
        return result;
    }

    /** After how many steps v comes again; 0: it never does. */
    private static int returnOf(int v, int salt) {
        int number = v;
        for (int step = 1; step <= NUMBERS; step++) {
            number = stepsBehind(number, salt, 1);
            if (number == v) {
                return step;
            }
        }
        return 0;
    }

    private static int tailOf(int seed, int salt) {
        int number = seed;
        for (int place = 0; place < NUMBERS; place++) {
            if (returnOf(number, salt) > 0) {
                return place;
            }
            number = stepsBehind(number, salt, 1);
        }
        return NUMBERS;
    }

    private static int loopOf(int seed, int salt) {
        return returnOf(stepsBehind(seed, salt, tailOf(seed, salt)), salt);
    }

    private static long power(int base, int exponent) {
        long result = 1;
        for (int i = 0; i < exponent; i++) {
            result *= base;
        }
        return result;
    }

    private static int toldFraction(long above, long below, boolean upper) {
        long common = commonDivisor(above, below);
        if (common == 0) {
            return 0;
        }
        return (int) ((upper ? above : below) / common);
    }

    private static long commonDivisor(long a, long b) {
        long larger = a;
        long smaller = b;
        // A long of 63 bits needs fewer than a hundred divisions.
        for (int step = 0; step < 100 && smaller != 0; step++) {
            long rest = larger % smaller;
            larger = smaller;
            smaller = rest;
        }
        return larger;
    }

    // ---- doings in mind, all of them in trial

    private static long withoutDoings(long row, int doings) {
        long result = row;
        for (int i = 0; i < doings; i++) {
            result /= 10000;
        }
        return result;
    }

    /** Does or asks a told doing of four figures; false: it can not be, or is not so. */
    private boolean isSo(int doing) {
        int who = doing / 100 % 10;
        int figures = doing % 100;
        switch (doing / 1000) {
            case 1: return figures == 0 && sendInMind(who);
            case 2: return figures == 0 && trial.spendPass(who);
            case 3: return trial.has(who) && trial.of(who, Hall.OWN) == figures;
            case 4: return trial.has(who) && trial.of(who, Hall.LEFT) == figures;
            case 5: return isNumber(doing % 1000) && trial.countFitted(doing % 1000) > 0;
            case 6: return figures <= 1 && trial.has(who) && trial.isInStep(who) == (figures == 1);
            case 7: return figures == 0 && widenInMind(who);
            default: return false;
        }
    }

    private boolean sendInMind(int user) {
        boolean can = trial.hasOwn(user);
        if (can) {
            trial.sendPass(user);
        }
        return can;
    }

    private boolean widenInMind(int w) {
        boolean can = isWithin(w, 1, MOST_WINDOW);
        if (can) {
            trial.setWindow(w);
        }
        return can;
    }

    /** How many of 10 to the r chances lose just the passes whose bits are set, if the user is in step then; else 0. */
    private long weightInStep(int user, int r, int x, int lost) {
        trial.copyFrom(now);
        long weight = 1;
        for (int i = 0; i < r; i++) {
            if ((lost >> i & 1) == 1) {
                trial.spendPass(user);
                weight *= x;
            } else {
                trial.sendPass(user);
                weight *= TENTHS - x;
            }
        }
        return trial.isInStep(user) ? weight : 0;
    }

    private boolean isTakenOnDay(int drawn) {
        int user = drawn % MOST_USERS;
        if (!trial.hasOwn(user)) {
            return false;
        }
        if (drawn / 4 % 4 == 0) {
            trial.spendPass(user);
            return false;
        }
        return trial.sendPass(user) > 0;
    }

    /** USERS, THE DESK, WINDOW, THE WIRE and what was HEARD: one row of cells, so that a copy is one move. */
    private static final class Hall {
        static final int MOST_HEARD = 8;
        /** Cells of a user, counted from its first one. */
        static final int SEED = 0, SALT = 1, N = 2, OWN = 3, LAST = 4, LEFT = 5;
        private static final int USER_CELLS = 6;
        /** Cells of the hall. */
        private static final int USERS = 0, WINDOW = 1, WIRE = 2, HEARD = 3, FIRST_HEARD = 4;
        private static final int FIRST_USER = FIRST_HEARD + MOST_HEARD;
        static final int CELLS = FIRST_USER + MOST_USERS * USER_CELLS;

        private final int[] cells;

        Hall() {
            cells = new int[CELLS];
            clear();
        }

        void clear() {
            Arrays.fill(cells, 0);
            cells[WINDOW] = 1;
            cells[WIRE] = NONE;
        }

        void copyFrom(Hall other) {
            System.arraycopy(other.cells, 0, cells, 0, CELLS);
        }

        int users() {
            return cells[USERS];
        }

        int window() {
            return cells[WINDOW];
        }

        void setWindow(int w) {
            cells[WINDOW] = w;
        }

        /** 1000 times the user, and the number; NONE. */
        int wire() {
            return cells[WIRE];
        }

        static int userIn(int told) {
            return told / 1000;
        }

        static int numberIn(int told) {
            return told % 1000;
        }

        int heardCount() {
            return cells[HEARD];
        }

        int heardAt(int i) {
            boolean there = i >= 0 && i < cells[HEARD] && i < MOST_HEARD;
            return there ? cells[FIRST_HEARD + i] : NONE;
        }

        void overhear() {
            int count = cells[HEARD];
            if (count >= 0 && count < MOST_HEARD) {
                cells[FIRST_HEARD + count] = cells[WIRE];
                cells[HEARD] = count + 1;
            }
        }

        boolean has(int user) {
            return user >= 0 && user < cells[USERS];
        }

        int of(int user, int what) {
            boolean there = user >= 0 && user < MOST_USERS && what >= 0 && what < USER_CELLS;
            return there ? cells[FIRST_USER + user * USER_CELLS + what] : 0;
        }

        private void put(int user, int what, int value) {
            if (user >= 0 && user < MOST_USERS && what >= 0 && what < USER_CELLS) {
                cells[FIRST_USER + user * USER_CELLS + what] = value;
            }
        }

        void addUser(int seed, int salt, int n) {
            int user = cells[USERS];
            if (user < MOST_USERS) {
                cells[USERS] = user + 1;
                beginRow(user, seed, salt, n);
            }
        }

        void beginRow(int user, int seed, int salt, int n) {
            put(user, SEED, seed);
            put(user, SALT, salt);
            put(user, N, n);
            put(user, OWN, n);
            put(user, LAST, stepsBehind(seed, salt, n));
            put(user, LEFT, n);
        }

        boolean hasOwn(int user) {
            return has(user) && of(user, OWN) > 0;
        }

        boolean anyHasOwn() {
            boolean any = false;
            for (int user = 0; user < MOST_USERS; user++) {
                any = any || hasOwn(user);
            }
            return any;
        }

        int passOf(int user, int i) {
            return stepsBehind(of(user, SEED), of(user, SALT), i);
        }

        /** By which k a number fits a user; 0: it does not. */
        int fitOf(int user, int v) {
            int most = Math.min(cells[WINDOW], of(user, LEFT));
            int salt = of(user, SALT);
            int last = of(user, LAST);
            int number = v;
            for (int k = 1; k <= most; k++) {
                number = stepsBehind(number, salt, 1);
                if (number == last) {
                    return k;
                }
            }
            return 0;
        }

        /** A number comes to the desk for a user: by which k it was taken; 0: it was not. */
        int bring(int user, int v) {
            cells[WIRE] = 1000 * user + v;
            int k = fitOf(user, v);
            if (k > 0) {
                put(user, LAST, v);
                put(user, LEFT, of(user, LEFT) - k);
            }
            return k;
        }

        /** One pass less; false: there is none. */
        boolean spendPass(int user) {
            boolean can = hasOwn(user);
            if (can) {
                put(user, OWN, of(user, OWN) - 1);
            }
            return can;
        }

        int sendPass(int user) {
            return spendPass(user) ? bring(user, passOf(user, of(user, OWN))) : 0;
        }

        boolean isInStep(int user) {
            return hasOwn(user) && fitOf(user, passOf(user, of(user, OWN) - 1)) > 0;
        }

        boolean isWarned(int user) {
            return of(user, LEFT) <= 3;
        }

        int gapOf(int user) {
            int own = of(user, OWN);
            // The most is looked for, and a gap is the greater the earlier in the row the next pass then stands.
            for (int next = 0; next < own; next++) {
                if (fitOf(user, passOf(user, next)) > 0) {
                    return own - 1 - next;
                }
            }
            return NONE;
        }

        int countFitting(int user) {
            int count = 0;
            for (int v = 0; v < NUMBERS; v++) {
                if (fitOf(user, v) > 0) {
                    count++;
                }
            }
            return count;
        }

        int leastFitting(int user) {
            for (int v = 0; v < NUMBERS; v++) {
                if (fitOf(user, v) > 0) {
                    return v;
                }
            }
            return NONE;
        }

        /** How many users a number fits. */
        int countFitted(int v) {
            int count = 0;
            for (int user = 0; user < MOST_USERS; user++) {
                if (has(user) && fitOf(user, v) > 0) {
                    count++;
                }
            }
            return count;
        }

        int leastStolen(int user) {
            int least = NONE;
            for (int i = 0; i < MOST_HEARD; i++) {
                int told = heardAt(i);
                if (told != NONE && userIn(told) == user) {
                    least = lesser(least, leastFrom(user, numberIn(told)));
                }
            }
            return least;
        }

        /** The least of v and what is 1 to 10 behind it that fits the user; NONE. */
        private int leastFrom(int user, int v) {
            int least = NONE;
            int number = v;
            for (int k = 0; k <= 10; k++) {
                if (fitOf(user, number) > 0) {
                    least = lesser(least, number);
                }
                number = stepsBehind(number, of(user, SALT), 1);
            }
            return least;
        }

        private static int lesser(int a, int b) {
            if (a == NONE) {
                return b;
            }
            return b == NONE ? a : Math.min(a, b);
        }
    }

    /** Halls as they were: ahead of each act that can be undone, and in the slots. */
    private static final class Shelf {
        static final int SLOTS = 2;
        private static final int MOST_ACTS = 14;

        private final int[] beforeActs;
        private final int[] kept;
        private final boolean[] isKept;
        /** How many acts can be undone; the place of the next one, in the ring beforeActs. */
        private int acts;
        private int nextAct;

        Shelf() {
            beforeActs = new int[MOST_ACTS * Hall.CELLS];
            kept = new int[SLOTS * Hall.CELLS];
            isKept = new boolean[SLOTS];
            acts = 0;
            nextAct = 0;
        }

        void remember(Hall hall) {
            if (isWithin(nextAct, 0, MOST_ACTS - 1)) {
                System.arraycopy(hall.cells, 0, beforeActs, nextAct * Hall.CELLS, Hall.CELLS);
                nextAct = (nextAct + 1) % MOST_ACTS;
                acts = Math.min(acts + 1, MOST_ACTS);
            }
        }

        boolean takeBack(Hall hall) {
            int lastAct = (nextAct + MOST_ACTS - 1) % MOST_ACTS;
            boolean can = acts > 0 && isWithin(lastAct, 0, MOST_ACTS - 1);
            if (can) {
                System.arraycopy(beforeActs, lastAct * Hall.CELLS, hall.cells, 0, Hall.CELLS);
                nextAct = lastAct;
                acts--;
            }
            return can;
        }

        boolean keepIn(int slot, Hall hall) {
            boolean can = isWithin(slot, 0, SLOTS - 1);
            if (can) {
                System.arraycopy(hall.cells, 0, kept, slot * Hall.CELLS, Hall.CELLS);
                isKept[slot] = true;
            }
            return can;
        }

        boolean bringBack(int slot, Hall hall) {
            boolean can = isWithin(slot, 0, SLOTS - 1) && isKept[slot];
            if (can) {
                System.arraycopy(kept, slot * Hall.CELLS, hall.cells, 0, Hall.CELLS);
                acts = 0;
            }
            return can;
        }

        void forgetAll() {
            acts = 0;
            for (int slot = 0; slot < SLOTS; slot++) {
                isKept[slot] = false;
            }
        }
    }

    /** What was seen of passes by an unknown seed. */
    private static final class Seen {
        private static final int MOST_SEEN = 6;

        private final int[] users;
        private final int[] places;
        private final int[] numbers;
        private int size;

        Seen() {
            users = new int[MOST_SEEN];
            places = new int[MOST_SEEN];
            numbers = new int[MOST_SEEN];
            size = 0;
        }

        boolean add(int user, int place, int number) {
            boolean can = size >= 0 && size < MOST_SEEN;
            if (can) {
                users[size] = user;
                places[size] = place;
                numbers[size] = number;
                size++;
            }
            return can;
        }

        int countSeeds(Hall hall) {
            int count = 0;
            for (int seed = 0; seed < NUMBERS; seed++) {
                if (agrees(seed, hall)) {
                    count++;
                }
            }
            return count;
        }

        int leastSeed(Hall hall) {
            for (int seed = 0; seed < NUMBERS; seed++) {
                if (agrees(seed, hall)) {
                    return seed;
                }
            }
            return NONE;
        }

        /** Whether all that was seen of users that there are is so by this seed. */
        private boolean agrees(int seed, Hall hall) {
            for (int i = 0; i < size && i < MOST_SEEN; i++) {
                int salt = hall.of(users[i], Hall.SALT);
                if (hall.has(users[i]) && stepsBehind(seed, salt, places[i]) != numbers[i]) {
                    return false;
                }
            }
            return true;
        }
    }

    /** THE TEXT, and how it is read letter by letter. */
    private static final class Text {
        private static final int MOST_LETTERS = 80;

        private final int[] letters;
        private int length;
        /** Where reading stands; where it ends early, this is the fault. */
        private int place;

        Text() {
            letters = new int[MOST_LETTERS];
            length = 0;
            place = 0;
        }

        boolean append(int letter) {
            boolean can = length >= 0 && length < MOST_LETTERS;
            if (can) {
                letters[length] = letter;
                length++;
            }
            return can;
        }

        /** Does all that the text tells in a cleared hall: the fault, with the parts ahead of it done; NONE. */
        int readInto(Hall hall) {
            hall.clear();
            place = 0;
            if (!isNext('S')) {
                return place;
            }
            place++;
            int window = readFigure(1, MOST_WINDOW);
            if (window == NONE) {
                return place;
            }
            hall.setWindow(window);
            boolean onlyUsers = true;
            for (int parts = 0; parts < MOST_LETTERS && place < length; parts++) {
                onlyUsers = onlyUsers && hall.users() < MOST_USERS && isNext('u');
                if (onlyUsers ? !readUser(hall) : !readDoing(hall)) {
                    return place;
                }
            }
            return NONE;
        }

        /** The letter where reading stands; NONE at the end. */
        private int nextLetter() {
            return place >= 0 && place < length && place < MOST_LETTERS ? letters[place] : NONE;
        }

        private boolean isNext(int letter) {
            return nextLetter() == letter;
        }

        private boolean readUser(Hall hall) {
            place++;
            int seed = readNumber();
            int salt = seed == NONE ? NONE : readNumber();
            int n = salt == NONE ? NONE : readRowLength();
            if (n == NONE) {
                return false;
            }
            hall.addUser(seed, salt, n);
            return true;
        }

        private boolean readDoing(Hall hall) {
            boolean sent = isNext('s');
            if (!sent && !isNext('m') || !hall.anyHasOwn()) {
                return false;
            }
            place++;
            int user = nextLetter() - '0';
            if (!hall.hasOwn(user)) {
                return false;
            }
            place++;
            if (sent) {
                hall.sendPass(user);
            } else {
                hall.spendPass(user);
            }
            return true;
        }

        /** Three figures, 000 to 250; NONE. */
        private int readNumber() {
            int hundreds = readFigure(0, 2);
            if (hundreds == NONE) {
                return NONE;
            }
            int tens = readFigure(0, hundreds == 2 ? 5 : 9);
            if (tens == NONE) {
                return NONE;
            }
            int ones = readFigure(0, hundreds == 2 && tens == 5 ? 0 : 9);
            return ones == NONE ? NONE : 100 * hundreds + 10 * tens + ones;
        }

        /** Two figures, 01 to 30; NONE. */
        private int readRowLength() {
            int tens = readFigure(0, 3);
            if (tens == NONE) {
                return NONE;
            }
            int ones = readFigure(tens == 0 ? 1 : 0, tens == 3 ? 0 : 9);
            return ones == NONE ? NONE : 10 * tens + ones;
        }

        /** The next letter as a figure, read over; NONE: it is none from low to high, and reading stays there. */
        private int readFigure(int low, int high) {
            int figure = nextLetter() - '0';
            if (!isWithin(figure, low, high)) {
                return NONE;
            }
            place++;
            return figure;
        }
    }
}
