import java.util.ArrayList;
import java.util.List;

/** Where all that a call can be asked is few enough: all of it, against the document's words or the model. */
public final class RangesTest {
    private static final int NUMBERS = 251;
    /** What an object answers behind so many calls is free. */
    private static final int MOST_CALLS = 512;
    /** Desks of which the letters, the doings and the numbers are gone through. */
    private static final String[] DESKS = {
        "S1", "S6u00200005", "S3u00025004u00100306s0m1s1", "S2u00000001u25025030m1s0s1",
        "S4u00200005u09100006u00025004u00100306s0m1s2m3s3s0", "S5u01020303u19924910u20019920u24919929m3s3m3s3m0m0m0s1"};
    private static int checks = 0;
    private static int wrong = 0;

    /** The class and the model, in the same standing. */
    private static final class Both {
        final SpentPasses real = new SpentPasses();
        final Model model = new Model();
        int asked = 0;

        Both(String text) {
            spell(text);
            int users = model.desk();
            due("desk of " + text, real.desk(), users);
            due("whether " + text + " is a desk", users >= 0 ? 1 : 0, 1);
            asked++;
        }

        void spell(String text) {
            for (int i = 0; i < text.length(); i++) {
                real.write(text.charAt(i));
                model.write(text.charAt(i));
                asked++;
            }
        }
    }

    public static void main(String[] args) {
        behind();
        rounds();
        faults();
        doings();
        numbers();
        seeds();
        System.out.println(checks + " answers: " + (wrong == 0 ? "all as due" : wrong + " faults"));
        if (wrong != 0) {
            System.exit(1);
        }
    }

    private static void due(String call, long got, long want) {
        checks++;
        if (got != want) {
            wrong++;
            if (wrong <= 20) {
                System.out.println(call + " answered " + got + ", due is " + want);
            }
        }
    }

    /** Promise 8: each NUMBER by each SALT, and each k of some. */
    private static void behind() {
        for (int salt = 0; salt < NUMBERS; salt++) {
            SpentPasses x = new SpentPasses();
            for (int v = 0; v < NUMBERS; v++) {
                due("promise 8, behind " + v + " by " + salt, x.behind(v, salt, 1), (v * v + salt) % NUMBERS);
            }
            int want = salt;
            for (int k = 0; k <= 99; k++) {
                due("promise 8, " + k + " behind " + salt, x.behind(salt, NUMBERS - 1 - salt, k), want);
                want = (want * want + NUMBERS - 1 - salt) % NUMBERS;
            }
        }
    }

    /** Promise 6: TAIL and LOOP of each SEED by each SALT, four users a desk. */
    private static void rounds() {
        for (int salt = 0; salt < NUMBERS; salt++) {
            for (int first = 0; first < NUMBERS; first += 4) {
                SpentPasses x = new SpentPasses();
                StringBuilder text = new StringBuilder("S1");
                for (int seed = first; seed < first + 4 && seed < NUMBERS; seed++) {
                    text.append(String.format("u%03d%03d%02d", seed, salt, 1 + seed % 30));
                }
                for (int i = 0; i < text.length(); i++) {
                    x.write(text.charAt(i));
                }
                int users = x.desk();
                for (int user = 0; user < users; user++) {
                    List<Integer> row = new ArrayList<>();
                    int next = first + user;
                    while (!row.contains(next)) {
                        row.add(next);
                        next = (next * next + salt) % NUMBERS;
                    }
                    String who = " of seed " + (first + user) + ", salt " + salt;
                    due("promise 6, TAIL" + who, x.user(user, 9), row.indexOf(next));
                    due("promise 6, LOOP" + who, x.user(user, 10), row.size() - row.indexOf(next));
                }
            }
        }
    }

    /** Promise 4: behind each beginning of a desk each letter, 0 to 255. */
    private static void faults() {
        for (String desk : DESKS) {
            for (int length = 0; length <= desk.length(); length++) {
                for (int letter = 0; letter < 256; letter++) {
                    SpentPasses x = new SpentPasses();
                    Model model = new Model();
                    for (int i = 0; i < length; i++) {
                        x.write(desk.charAt(i));
                        model.write(desk.charAt(i));
                    }
                    x.write(letter);
                    model.write(letter);
                    due("promise 4, letter " + letter + " behind " + desk.substring(0, length), x.fault(), model.fault());
                }
            }
        }
    }

    /** Promise 20: each doing of four figures, alone, and behind a doing that changes what the next one finds. */
    private static void doings() {
        for (String desk : DESKS) {
            Both both = new Both(desk);
            for (int doing = 0; doing < 10000; doing++) {
                if (both.asked + 3 > MOST_CALLS) {
                    both = new Both(desk);
                }
                both.asked += 3;
                String told = "promise 20, doing " + doing + " at " + desk;
                due(told, both.real.judge(1, doing), both.model.judge(1, doing));
                due(told + " behind 1000", both.real.judge(2, 10000000L + doing), both.model.judge(2, 10000000L + doing));
                due(told + " behind 7600", both.real.judge(2, 76000000L + doing), both.model.judge(2, 76000000L + doing));
            }
        }
    }

    /** Promises 11, 16: each NUMBER for each user, and some that are none. */
    private static void numbers() {
        for (String desk : DESKS) {
            for (int user = -1; user <= 4; user++) {
                Both both = new Both(desk);
                for (int v = -2; v <= NUMBERS + 1; v++) {
                    if (both.asked + 4 > MOST_CALLS) {
                        both = new Both(desk);
                    }
                    both.asked += 4;
                    String what = "of user " + user + ", number " + v + ", at " + desk;
                    due("promise 16, " + what, both.real.fits(user, v), both.model.fits(user, v));
                    due("promise 11, " + what, both.real.attempt(user, v), both.model.attempt(user, v));
                    if (user >= 0 && user < both.real.count(1) && v >= 0 && v < NUMBERS) {
                        due("promise 15, " + what, both.real.undo(), both.model.undo());
                    }
                }
            }
        }
    }

    /** Promise 23: each place of a row and each NUMBER that could be seen there. */
    private static void seeds() {
        Both both = new Both(DESKS[4]);
        for (int i = 0; i < 30; i++) {
            for (int v = 0; v < NUMBERS; v++) {
                if (both.asked + 4 > MOST_CALLS) {
                    both = new Both(DESKS[4]);
                }
                both.asked += 4;
                String what = "pass " + i + " is " + v;
                due("promise 21, " + what, both.real.see(v % 4, i, v), both.model.see(v % 4, i, v));
                due("promise 23, how many, " + what, both.real.which(0), both.model.which(0));
                due("promise 23, the least, " + what, both.real.which(1), both.model.which(1));
                due("promise 22, " + what, both.real.unsee(), both.model.unsee());
            }
        }
    }
}
