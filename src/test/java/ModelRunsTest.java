import java.util.Random;

/**
 * Runs of calls by fixed seeds: the class and the model have to answer alike, and to stand alike behind each refused
 * call, behind some others, and at the end.
 */
public final class ModelRunsTest {
    private static final int RUNS = 8000;
    /** What an object answers behind so many calls is free. */
    private static final int MOST_CALLS = 512;
    /** How many calls a step of a run is at most (behind a text's last letter come two more), and a look at all that stands. */
    private static final int STEP = 3, LOOK = 7 + 4 * 8 + 8 + 2;
    private static final int[] ODD = {-1, -2, -9, 4, 5, 7, 11, 15, 31, 61, 81, 100, 251, 256, 1000,
        Integer.MIN_VALUE, Integer.MAX_VALUE, Integer.MAX_VALUE - 1, Integer.MIN_VALUE + 1, 46341, 65536};

    private final Random random;
    private final int run;
    private final SpentPasses real = new SpentPasses();
    private final Model model = new Model();
    private final StringBuilder calls = new StringBuilder();
    private String pending = "";
    /** Numbers of few kinds make rows that soon go round, so that much fits by chance. */
    private final int kinds;
    private boolean wrong = false;
    private int asked = 0;
    private boolean refused = false;

    private ModelRunsTest(int run) {
        this.run = run;
        random = new Random(run);
        kinds = run % 3 == 0 ? 2 : run % 3 == 1 ? 12 : 251;
    }

    public static void main(String[] args) {
        int wrongRuns = 0;
        for (int run = 0; run < RUNS && wrongRuns < 5; run++) {
            ModelRunsTest test = new ModelRunsTest(run);
            test.runOnce();
            wrongRuns += test.wrong ? 1 : 0;
        }
        System.out.println(wrongRuns == 0 ? RUNS + " runs are as the model's" : wrongRuns + " runs are not as the model's");
        if (wrongRuns != 0) {
            System.exit(1);
        }
    }

    private void runOnce() {
        while (asked + STEP + 2 * LOOK <= MOST_CALLS && !wrong) {
            call();
            if (refused || below(12) == 0) {
                compareStanding();
            }
        }
        compareStanding();
    }

    private void due(String call, long got, long want) {
        asked++;
        refused = want < 0;
        calls.append(call).append(' ').append(want).append('\n');
        if (got != want && !wrong) {
            wrong = true;
            String all = calls.toString();
            System.out.println("run " + run + ": " + all.substring(Math.max(0, all.length() - 1500)));
            System.out.println("the last one answered " + got + ", due is " + want);
        }
    }

    private void same(String what, long got, long want) {
        asked++;
        if (got != want && !wrong) {
            wrong = true;
            String all = calls.toString();
            System.out.println("run " + run + ": " + all.substring(Math.max(0, all.length() - 1500)));
            System.out.println("behind it " + what + " is " + got + ", due is " + want);
        }
    }

    private void compareStanding() {
        for (int what = 0; what <= 6; what++) {
            same("count " + what, real.count(what), model.count(what));
        }
        for (int user = 0; user < model.count(1); user++) {
            for (int what = 0; what <= 7; what++) {
                same("user " + user + ", " + what, real.user(user, what), model.user(user, what));
            }
        }
        for (int i = 0; i < model.count(4); i++) {
            same("heard " + i, real.heard(i), model.heard(i));
        }
        long days = real.seed(7);
        same("days", days, model.seed(7));
        same("days at once again", real.seed(days), model.seed(days));
    }

    private int below(int n) {
        return random.nextInt(n);
    }

    private int odd(int ordinary) {
        return below(25) == 0 ? ODD[below(ODD.length)] : ordinary;
    }

    private int number() {
        int number = below(kinds);
        return odd(kinds < 251 && below(4) == 0 ? 250 - number : number);
    }

    private int user() {
        int users = model.count(1);
        return odd(users == 0 ? 0 : below(users));
    }

    /** A number that often fits the user, or did. */
    private int likely(int user) {
        int own = model.user(user, 3);
        if (own < 0 || below(4) == 0) {
            return number();
        }
        return model.pass(user, Math.max(0, own - 1 - below(4)));
    }

    private void call() {
        if (!pending.isEmpty()) {
            int letter = pending.charAt(0);
            pending = pending.substring(1);
            due("write " + letter, real.write(letter), model.write(letter));
            if (pending.isEmpty()) {
                due("fault", real.fault(), model.fault());
                due("desk", real.desk(), model.desk());
            } else if (below(6) == 0) {
                due("fault", real.fault(), model.fault());
            }
            return;
        }
        int kind = below(100);
        if (kind < 55) {
            act(below(20));
        } else if (kind < 88) {
            ask(below(16));
        } else {
            rest(below(12));
        }
    }

    private void act(int kind) {
        int user = user();
        if (kind < 6) {
            due("send " + user, real.send(user), model.send(user));
        } else if (kind < 9) {
            due("miss " + user, real.miss(user), model.miss(user));
        } else if (kind < 12) {
            int v = likely(user);
            due("attempt " + user + " " + v, real.attempt(user, v), model.attempt(user, v));
        } else if (kind < 15) {
            due("hear", real.hear(), model.hear());
        } else if (kind < 16) {
            int seed = number();
            int salt = number();
            int n = odd(1 + below(30));
            due("renew " + user + " " + seed + " " + salt + " " + n, real.renew(user, seed, salt, n),
                model.renew(user, seed, salt, n));
        } else if (kind < 17) {
            int w = odd(below(8));
            due("widen " + w, real.widen(w), model.widen(w));
        } else {
            due("undo", real.undo(), model.undo());
        }
    }

    private void ask(int kind) {
        int user = user();
        boolean upper = random.nextBoolean();
        if (kind < 3) {
            int what = odd(below(11));
            due("user " + user + " " + what, real.user(user, what), model.user(user, what));
        } else if (kind < 4) {
            int i = odd(below(32));
            due("pass " + user + " " + i, real.pass(user, i), model.pass(user, i));
        } else if (kind < 5) {
            int v = number();
            int salt = number();
            int k = odd(below(100));
            due("behind " + v + " " + salt + " " + k, real.behind(v, salt, k), model.behind(v, salt, k));
        } else if (kind < 6) {
            int v = likely(user);
            due("fits " + user + " " + v, real.fits(user, v), model.fits(user, v));
        } else if (kind < 7) {
            int what = odd(below(3));
            due("fitting " + user + " " + what, real.fitting(user, what), model.fitting(user, what));
        } else if (kind < 9) {
            due("thief " + user, real.thief(user), model.thief(user));
        } else if (kind < 12) {
            int n = odd(1 + below(4));
            long row = row(Math.min(5, Math.max(0, n)));
            due("judge " + n + " " + row, real.judge(n, row), model.judge(n, row));
        } else if (kind < 13) {
            due("share " + user + " " + upper, real.share(user, upper), model.share(user, upper));
        } else if (kind < 14) {
            int n = odd(below(4));
            due("guess " + user + " " + n, real.guess(user, n, upper), model.guess(user, n, upper));
        } else {
            int r = odd(below(7));
            int x = odd(below(11));
            due("loss " + user + " " + r + " " + x, real.loss(user, r, x, upper), model.loss(user, r, x, upper));
        }
    }

    private void rest(int kind) {
        if (kind < 2) {
            due("wipe", real.wipe(), model.wipe());
            pending = text();
        } else if (kind < 3) {
            int letter = odd(below(256));
            due("write " + letter, real.write(letter), model.write(letter));
        } else if (kind < 5) {
            int user = odd(below(4));
            int i = odd(below(30));
            int v = below(2) == 0 ? number() : model.pass(Math.min(3, Math.max(0, user)), Math.max(0, Math.min(29, i)));
            due("see " + user + " " + i + " " + v, real.see(user, i, v), model.see(user, i, v));
        } else if (kind < 6) {
            due("unsee", real.unsee(), model.unsee());
        } else if (kind < 8) {
            int what = odd(below(3));
            due("which " + what, real.which(what), model.which(what));
        } else if (kind < 9) {
            long seed = below(3) == 0 ? below(10) : random.nextLong();
            due("seed " + seed, real.seed(seed), model.seed(seed));
        } else if (kind < 10) {
            int m = odd(below(62));
            due("drawn " + m, real.drawn(m), model.drawn(m));
        } else {
            int slot = odd(below(3));
            if (random.nextBoolean()) {
                due("keep " + slot, real.keep(slot), model.keep(slot));
            } else {
                due("again " + slot, real.again(slot), model.again(slot));
            }
        }
    }

    private long row(int doings) {
        if (below(20) == 0) {
            return random.nextLong() >> below(64);
        }
        long row = 0;
        for (int i = 0; i < doings; i++) {
            row = 10000 * row + (below(15) == 0 ? below(10000) : doing());
        }
        return row;
    }

    /** One that is mostly so, by how all is now. */
    private int doing() {
        int users = model.count(1);
        int user = users == 0 ? below(5) : below(users);
        switch (1 + below(7)) {
            case 1: return 1000 + 100 * user;
            case 2: return 2000 + 100 * user;
            case 3: return 3000 + 100 * user + Math.max(0, model.user(user, 3) - below(2));
            case 4: return 4000 + 100 * user + Math.max(0, model.user(user, 5) - below(2));
            case 5: return 5000 + Math.min(999, Math.max(0, likely(user)));
            case 6: return 6000 + 100 * user + Math.max(0, model.user(user, 6));
            default: return 7000 + 100 * below(8);
        }
    }

    private String text() {
        StringBuilder text = new StringBuilder("S").append(1 + below(6));
        int users = below(12) == 0 ? 5 : below(5);
        int own = 0;
        for (int user = 0; user < users; user++) {
            int n = below(3) == 0 ? 1 + below(3) : 1 + below(30);
            own += n;
            text.append(String.format("u%03d%03d%02d", figures(), figures(), n));
        }
        int doings = users == 0 ? 0 : below(4) == 0 ? own + 1 : below(12);
        for (int i = 0; i < doings && text.length() < 79; i++) {
            text.append(random.nextBoolean() ? 's' : 'm').append(below(users));
        }
        if (below(4) == 0) {
            text.setCharAt(below(text.length()), "Sums0123456789x ".charAt(below(16)));
        }
        return text.length() > 82 ? text.substring(0, 82) : text.toString();
    }

    private int figures() {
        return kinds == 251 ? below(below(10) == 0 ? 256 : 251) : below(kinds);
    }
}
