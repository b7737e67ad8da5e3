import java.util.function.Supplier;
import java.util.function.ToLongFunction;

/** The promises 1 to 31, their sentences one by one: least and greatest, empty and full, and each refusal of each call. */
public final class PromiseEdgesTest {
    private static final int UNKNOWN = Sentences.UNKNOWN, OUTSIDE = Sentences.OUTSIDE, STATE = Sentences.STATE,
        FULL = Sentences.FULL, NONE = Sentences.NONE, MIN = Sentences.MIN, MAX = Sentences.MAX;
    private static final String SQUARES = Sentences.SQUARES, LONGER = Sentences.LONGER, ROUND = Sentences.ROUND,
        PAIRS = Sentences.PAIRS, NOUGHTS = Sentences.NOUGHTS;
    /** What no call takes as a user where there are two, or as a slot. */
    private static final int[] NOBODY = {-1, 2, 3, 4, MIN, MAX};
    private static final int[] NO_NUMBER = {-1, 251, MIN, MAX};

    private static int promise = 0;

    public static void main(String[] args) {
        newObject();
        write();
        wipe();
        fault();
        deskAsTold();
        deskAllElse();
        user();
        userRefused();
        pass();
        behind();
        send();
        miss();
        attempt();
        hear();
        renew();
        widen();
        undo();
        fits();
        fitting();
        thief();
        heard();
        judge();
        see();
        unsee();
        which();
        share();
        guess();
        loss();
        seed();
        drawn();
        keep();
        again();
        count();
        Sentences.due("the last promise", promise, 31);
        Sentences.end();
    }

    private static void open(int number) {
        promise = number;
        Sentences.openPart("Promise " + number + ":");
    }

    private static void says(String words, Runnable body) {
        Sentences.says(String.valueOf(promise), words, body);
    }

    private static void due(String call, long got, long want) {
        Sentences.due(call, got, want);
    }

    private static SpentPasses deskOf(String text) {
        return Sentences.deskOf(text);
    }

    private static void refused(String call, Supplier<SpentPasses> made, ToLongFunction<SpentPasses> asked, long refusal) {
        Sentences.refused(call, made, asked, refusal);
    }

    /** A call of a user that there is not. */
    private interface OfUser {
        long ask(SpentPasses x, int user);
    }

    private static void dueUnknown(String call, OfUser asked) {
        due(call + " of nobody", asked.ask(new SpentPasses(), 0), UNKNOWN);
        due(call + " of a fifth", asked.ask(deskOf("S1" + NOUGHTS + NOUGHTS + NOUGHTS + NOUGHTS), 4), UNKNOWN);
        for (int user : NOBODY) {
            refused(call + " of " + user, Sentences::busy, x -> asked.ask(x, user), UNKNOWN);
        }
    }

    private static void newObject() {
        open(1);
        says("Nobody,", () -> {
            SpentPasses x = new SpentPasses();
            due("USERS", x.count(1), 0);
            due("user 0", x.user(0, 0), UNKNOWN);
            due("letters", x.count(0), 0);
            due("THE WIRE", x.count(3), NONE);
            due("HEARD", x.count(4), 0);
            due("ACTS", x.count(5), 0);
            due("SEEN", x.count(6), 0);
            due("slot 0", x.again(0), STATE);
            due("slot 1", x.again(1), STATE);
            due("THE SEED OF DAYS", x.seed(0), 0);
        });
        says("a window of one.", () -> due("WINDOW", new SpentPasses().count(2), 1));
    }

    private static void write() {
        open(2);
        says("A letter (0 to 255) comes behind THE TEXT: how long it is.", () -> {
            SpentPasses x = new SpentPasses();
            due("the least", x.write(0), 1);
            due("the greatest", x.write(255), 2);
            due("how long", x.count(0), 2);
            SpentPasses desk = new SpentPasses();
            desk.write('S');
            desk.write('4');
            due("behind, not ahead", desk.fault(), NONE);
        });
        says("OUTSIDE;", () -> {
            for (int letter : new int[] {-1, 256, 256 + 's', MIN, MAX}) {
                refused("write " + letter, Sentences::busy, x -> x.write(letter), OUTSIDE);
                refused("write " + letter + " where there are 80", Sentences::full, x -> x.write(letter), OUTSIDE);
            }
        });
        says("FULL: there are 80.", () -> {
            SpentPasses x = new SpentPasses();
            for (int i = 1; i < 80; i++) {
                x.write(0);
            }
            due("the 80th", x.write(0), 80);
            due("the 81st", x.write(0), FULL);
            refused("write", Sentences::full, y -> y.write('s'), FULL);
            x.wipe();
            due("room again", x.write(0), 1);
        });
    }

    private static void wipe() {
        open(3);
        says("THE TEXT is empty: how long it was.", () -> {
            due("of none", new SpentPasses().wipe(), 0);
            SpentPasses x = Sentences.full();
            due("of 80", x.wipe(), 80);
            due("letters", x.count(0), 0);
            due("fault", x.fault(), 0);
            due("once more", x.wipe(), 0);
            due("the users stay", x.count(1), 1);
            x.write('S');
            due("old letters do not come back", x.fault(), 1);
        });
    }

    private static void fault() {
        open(4);
        says("FAULT;", () -> {
            due("of none", new SpentPasses().fault(), 0);
            due("the first letter", Sentences.faultOf("x"), 0);
            due("the last of 80", Sentences.faultOf("S1u00000030u00000030" + "s0".repeat(29) + "s2"), 79);
            due("no figure behind an s", Sentences.faultOf("S1u00000030" + "s0".repeat(29) + "ss"), 70);
            due("not at its end", Sentences.faultOf("S1u"), 3);
            Sentences.unchanged("fault", Sentences::busy, SpentPasses::fault);
            Sentences.unchanged("fault", Sentences::full, SpentPasses::fault);
            for (String text : new String[] {"", "S6u00000001u00000001u00000001u00000001s0"}) {
                Sentences.unchanged("fault of another text " + text, () -> {
                    SpentPasses x = Sentences.busy();
                    Sentences.spell(x, text);
                    return x;
                }, SpentPasses::fault);
            }
        });
        says("NONE.", () -> {
            due("the shortest", Sentences.faultOf("S1"), NONE);
            due("of 80 letters", Sentences.faultOf("S1u00000030u00000030" + "s0".repeat(30)), NONE);
        });
    }

    private static void deskAsTold() {
        open(5);
        says("THE TEXT (that stays as it is) is THE DESK,", () -> {
            SpentPasses x = new SpentPasses();
            Sentences.spell(x, "S6" + SQUARES);
            x.desk();
            due("letters", x.count(0), 11);
            due("fault", x.fault(), NONE);
            due("WINDOW", x.count(2), 6);
            due("USERS", x.count(1), 1);
            x.send(0);
            due("once more", x.desk(), 1);
            due("as at first: OWN", x.user(0, 3), 5);
            due("as at first: THE WIRE", x.count(3), NONE);
            Sentences.spell(x, "S1");
            due("of none", x.desk(), 0);
            due("USERS", x.count(1), 0);
            due("user 0 is gone", x.user(0, 0), UNKNOWN);
            due("WINDOW", x.count(2), 1);
        });
        says("all its PARTS done", () -> {
            SpentPasses x = deskOf("S2" + SQUARES + "u00000001" + "m0s0m1");
            int[] first = {2, 0, 5, 3, 5, 3};
            int[] second = {0, 0, 1, 0, 0, 1};
            for (int what = 0; what < 6; what++) {
                due("user 0, " + what, x.user(0, what), first[what]);
                due("user 1, " + what, x.user(1, what), second[what]);
            }
            due("THE WIRE", x.count(3), 5);
            due("what is not taken is on it, too", deskOf("S1" + SQUARES + SQUARES + "m1s1").count(3), 1005);
            due("missed ones are not on it", deskOf("S1" + SQUARES + "m0").count(3), NONE);
            SpentPasses round = deskOf("S1u00000030u00000030" + "s0".repeat(30));
            due("OWN", round.user(0, 3), 0);
            due("LEFT", round.user(0, 5), 0);
        });
        says("how many USERS.", () -> {
            String text = "S1";
            for (int users = 0; users <= 4; users++) {
                SpentPasses x = new SpentPasses();
                Sentences.spell(x, text);
                due("desk", x.desk(), users);
                text += NOUGHTS;
            }
        });
        says("STATE: a FAULT.", () -> {
            for (String text : new String[] {"", "S", "S0", "S7", "S1u", "S1u25100001", "S1u00000031", "S1" + SQUARES + "s",
                "S1" + SQUARES + "s1", "S1" + SQUARES + "s0u", "S6" + ROUND + "s0s0x", " S1"}) {
                refused("desk of " + text, () -> {
                    SpentPasses x = Sentences.busy();
                    Sentences.spell(x, text);
                    return x;
                }, SpentPasses::desk, STATE);
            }
        });
    }

    private static void deskAllElse() {
        Supplier<SpentPasses> another = () -> {
            SpentPasses x = Sentences.busy();
            Sentences.spell(x, "S4" + ROUND);
            x.desk();
            return x;
        };
        says("(nothing is HEARD;", () -> {
            SpentPasses x = another.get();
            due("HEARD", x.count(4), 0);
            due("the first", x.heard(0), NONE);
            due("thief", x.thief(0), NONE);
        });
        says("THE ROW of ACTS is empty,", () -> {
            SpentPasses x = another.get();
            due("ACTS", x.count(5), 0);
            due("undo", x.undo(), STATE);
            due("PARTS are no ACTS", deskOf("S1" + SQUARES + "s0m0").count(5), 0);
        });
        says("what was kept is gone;", () -> {
            SpentPasses x = another.get();
            due("slot 0", x.again(0), STATE);
            due("slot 1", x.again(1), STATE);
        });
        says("SEEN, THE SEED OF DAYS stay):", () -> {
            SpentPasses x = another.get();
            due("SEEN", x.count(6), 2);
            due("THE SEED OF DAYS", x.seed(0), 77);
        });
    }

    private static void user() {
        open(6);
        says("Of a USER SEED (what = 0), SALT (1), N (2),", () -> {
            SpentPasses x = deskOf("S1u00025001u25000030");
            int[] first = {0, 250, 1};
            int[] second = {250, 0, 30};
            for (int what = 0; what <= 2; what++) {
                due("user 0, " + what, x.user(0, what), first[what]);
                due("user 1, " + what, x.user(1, what), second[what]);
            }
        });
        says("OWN (3), LAST (4), LEFT (5),", () -> {
            SpentPasses x = deskOf("S2" + SQUARES + "m0s0m0m0m0");
            due("OWN", x.user(0, 3), 0);
            due("LAST", x.user(0, 4), 5);
            due("LEFT", x.user(0, 5), 3);
            SpentPasses drained = deskOf("S6" + LONGER);
            drained.attempt(0, 91);
            due("OWN", drained.user(0, 3), 6);
            due("LAST", drained.user(0, 4), 91);
            due("LEFT", drained.user(0, 5), 0);
        });
        says("1 if it is IN STEP, 0 (6),", () -> {
            due("in step", deskOf("S1" + SQUARES).user(0, 6), 1);
            due("out of step", deskOf("S1" + SQUARES + "m0").user(0, 6), 0);
            due("OWN is 0", Sentences.spent().user(0, 6), 0);
        });
        says("1 if it is WARNED, 0 (7),", () -> {
            due("4 are left", deskOf("S1" + SQUARES + "s0").user(0, 7), 0);
            due("3 are left", deskOf("S1" + SQUARES + "s0s0").user(0, 7), 1);
            due("none is left", deskOf("S1u00000001s0").user(0, 7), 1);
        });
        says("GAP (8; NONE),", () -> {
            due("0", deskOf("S1" + SQUARES).user(0, 8), 0);
            due("29", deskOf("S1u00000030").user(0, 8), 29);
            due("none", deskOf("S1" + SQUARES + "m0").user(0, 8), NONE);
        });
        says("TAIL (9), LOOP (10).", () -> {
            SpentPasses x = deskOf("S1u00000001u22209201u24800001");
            int[] tails = {0, 47, 1};
            int[] loops = {1, 2, 100};
            for (int user = 0; user < 3; user++) {
                due("TAIL of " + user, x.user(user, 9), tails[user]);
                due("LOOP of " + user, x.user(user, 10), loops[user]);
            }
        });
    }

    private static void userRefused() {
        says("UNKNOWN;", () -> {
            for (int what : new int[] {0, 6, 10, -1, 11}) {
                dueUnknown("user, " + what, (x, user) -> x.user(user, what));
            }
        });
        says("OUTSIDE.", () -> {
            for (int what : new int[] {-1, 11, MIN, MAX}) {
                refused("what " + what, Sentences::busy, x -> x.user(1, what), OUTSIDE);
            }
        });
    }

    private static void pass() {
        open(7);
        says("Pass i of a USER;", () -> {
            SpentPasses x = deskOf("S1" + SQUARES + "u00200030u25025001" + "s0m0");
            int[] row = {2, 4, 16, 5, 25};
            for (int i = 0; i < 5; i++) {
                due("pass " + i + ", spent or not", x.pass(0, i), row[i]);
            }
            due("pass 20", x.pass(1, 20), 249);
            due("pass 21, round", x.pass(1, 21), 4);
            due("pass 29", x.pass(1, 29), 80);
            due("the one pass", x.pass(2, 0), 250);
        });
        says("NONE: i is not 0 to N less 1.", () -> {
            SpentPasses x = deskOf("S1" + SQUARES + "u00200030u25025001");
            for (int i : new int[] {-1, MIN, MAX}) {
                for (int user = 0; user < 3; user++) {
                    due("pass " + i + " of " + user, x.pass(user, i), NONE);
                }
            }
            due("pass 5 of 5", x.pass(0, 5), NONE);
            due("pass 30 of 30", x.pass(1, 30), NONE);
            due("pass 1 of 1", x.pass(2, 1), NONE);
            Sentences.unchanged("pass -1", Sentences::busy, y -> y.pass(0, -1));
        });
        says("UNKNOWN.", () -> {
            dueUnknown("pass 0", (x, user) -> x.pass(user, 0));
            dueUnknown("pass -1", (x, user) -> x.pass(user, -1));
        });
    }

    private static void behind() {
        open(8);
        says("The NUMBER k BEHIND v by a SALT.", () -> {
            SpentPasses x = new SpentPasses();
            due("0 behind 0", x.behind(0, 0, 0), 0);
            due("0 behind 250", x.behind(250, 250, 0), 250);
            due("99 behind 250", x.behind(250, 250, 99), 0);
            due("98 behind 250", x.behind(250, 250, 98), 250);
            due("1 behind 16, round", x.behind(16, 0, 1), 5);
            due("1 behind 15, just round", x.behind(15, 26, 1), 0);
        });
        says("OUTSIDE: v, salt (NUMBERS),", () -> {
            for (int v : NO_NUMBER) {
                refused("v " + v, Sentences::busy, x -> x.behind(v, 0, 0), OUTSIDE);
                refused("salt " + v, Sentences::busy, x -> x.behind(0, v, 0), OUTSIDE);
            }
        });
        says("k (0 to 99).", () -> {
            for (int k : new int[] {-1, 100, MIN, MAX}) {
                refused("k " + k, Sentences::busy, x -> x.behind(0, 0, k), OUTSIDE);
            }
            due("k 0", new SpentPasses().behind(2, 0, 0), 2);
            due("k 99", new SpentPasses().behind(2, 0, 99), 91);
        });
    }

    private static void send() {
        open(9);
        says("SENT: by which k it was TAKEN,", () -> {
            for (int missed = 0; missed <= 5; missed++) {
                due("behind " + missed + " missed", deskOf("S6" + LONGER + "m0".repeat(missed)).send(0), missed + 1);
            }
        });
        says("0 if it was not.", () -> {
            for (int window = 1; window <= 5; window++) {
                due("by " + window, deskOf("S" + window + LONGER + "m0".repeat(window)).send(0), 0);
            }
            SpentPasses x = deskOf("S6u00000002");
            x.attempt(0, 0);
            x.attempt(0, 0);
            due("LEFT is 0", x.send(0), 0);
            due("OWN is one less", x.user(0, 3), 1);
        });
        says("UNKNOWN;", () -> dueUnknown("send", SpentPasses::send));
        says("STATE: OWN is 0.", () -> {
            refused("send", Sentences::spent, x -> x.send(0), STATE);
            SpentPasses x = deskOf("S1u00000001");
            due("OWN is 1", x.send(0), 1);
            due("OWN is 0", x.send(0), STATE);
        });
    }

    private static void miss() {
        open(10);
        says("MISSED: OWN then.", () -> {
            SpentPasses x = deskOf("S1u00200030");
            for (int own = 29; own >= 0; own--) {
                due("miss", x.miss(0), own);
            }
            due("LEFT", x.user(0, 5), 30);
        });
        says("UNKNOWN;", () -> dueUnknown("miss", SpentPasses::miss));
        says("STATE: OWN is 0.", () -> {
            refused("miss", Sentences::spent, x -> x.miss(0), STATE);
            SpentPasses x = deskOf("S1u00000001");
            due("OWN is 1", x.miss(0), 0);
            due("OWN is 0", x.miss(0), STATE);
        });
    }

    private static void attempt() {
        open(11);
        says("TRIED: by which k it was TAKEN,", () -> {
            int[] ahead = {123, 25, 246, 235, 247, 2, 160};
            for (int k = 1; k <= 6; k++) {
                due(k + " ahead", deskOf("S6" + LONGER).attempt(0, ahead[k]), k);
            }
            due("0", deskOf("S1" + NOUGHTS).attempt(0, 0), 1);
            due("250", deskOf("S1" + PAIRS).attempt(0, 250), 1);
        });
        says("0 if it was not.", () -> {
            due("LAST itself", deskOf("S6" + LONGER).attempt(0, 123), 0);
            due("6 ahead by a window of 5", deskOf("S5" + LONGER).attempt(0, 91), 0);
            due("6 ahead where 5 are left", deskOf("S6" + SQUARES).attempt(0, 91), 0);
            due("LEFT is 0", deskOf("S6u00000001s0").attempt(0, 0), 0);
        });
        says("UNKNOWN;", () -> {
            dueUnknown("attempt of 0", (x, user) -> x.attempt(user, 0));
            dueUnknown("attempt of 251", (x, user) -> x.attempt(user, 251));
        });
        says("OUTSIDE: v.", () -> {
            for (int v : NO_NUMBER) {
                refused("attempt " + v, Sentences::busy, x -> x.attempt(0, v), OUTSIDE);
            }
        });
    }

    private static void hear() {
        open(12);
        says("HEARD: the NUMBER.", () -> {
            SpentPasses x = deskOf("S1" + NOUGHTS + NOUGHTS + NOUGHTS + PAIRS + "s3");
            due("the greatest, of user 3", x.hear(), 250);
            x.send(0);
            due("the least, of user 0", x.hear(), 0);
        });
        says("STATE: nothing is on THE WIRE;", () -> {
            refused("hear", SpentPasses::new, SpentPasses::hear, STATE);
            refused("hear", () -> deskOf("S1" + SQUARES + "m0"), SpentPasses::hear, STATE);
            SpentPasses x = deskOf("S1" + SQUARES);
            x.send(0);
            x.undo();
            due("what came is undone", x.hear(), STATE);
        });
        says("FULL: 8.", () -> {
            SpentPasses x = deskOf("S1" + SQUARES + "s0");
            for (int i = 1; i < 8; i++) {
                x.hear();
            }
            due("the eighth", x.hear(), 25);
            due("the ninth", x.hear(), FULL);
            x.undo();
            due("the eighth again", x.hear(), 25);
            refused("hear", Sentences::full, SpentPasses::hear, FULL);
        });
    }

    private static void renew() {
        open(13);
        says("ANEW: by which k its pass was TAKEN,", () -> {
            for (int missed = 0; missed <= 5; missed++) {
                SpentPasses x = deskOf("S6" + LONGER + "m0".repeat(missed));
                due("behind " + missed + " missed", x.renew(0, 250, 250, 30), missed + 1);
                due("OWN", x.user(0, 3), 30);
                due("LEFT", x.user(0, 5), 30);
            }
            SpentPasses least = deskOf("S1u00000001");
            due("all as small as can be", least.renew(0, 0, 0, 1), 1);
            due("OWN", least.user(0, 3), 1);
        });
        says("0 if it was not.", () -> {
            SpentPasses x = deskOf("S1" + SQUARES + "m0m0m0m0");
            due("pass 0 is 5 ahead", x.renew(0, 250, 250, 30), 0);
            due("SEED", x.user(0, 0), 2);
            due("OWN", x.user(0, 3), 0);
            due("LEFT", x.user(0, 5), 5);
            SpentPasses drained = deskOf("S6u00000002");
            drained.attempt(0, 0);
            drained.attempt(0, 0);
            due("LEFT is 0", drained.renew(0, 1, 1, 1), 0);
            due("SEED", drained.user(0, 0), 0);
        });
        says("UNKNOWN;", () -> {
            dueUnknown("renew", (x, user) -> x.renew(user, 0, 0, 1));
            dueUnknown("renew by what is none", (x, user) -> x.renew(user, 251, 251, 0));
        });
        says("OUTSIDE: seed, salt,", () -> {
            for (int v : NO_NUMBER) {
                refused("seed " + v, Sentences::busy, x -> x.renew(0, v, 0, 1), OUTSIDE);
                refused("salt " + v, Sentences::busy, x -> x.renew(0, 0, v, 1), OUTSIDE);
                due("seed " + v + " where OWN is 0", Sentences.spent().renew(0, v, 0, 1), OUTSIDE);
                due("salt " + v + " where OWN is 0", Sentences.spent().renew(0, 0, v, 1), OUTSIDE);
            }
        });
        says("n (1 to 30);", () -> {
            for (int n : new int[] {0, -1, 31, MIN, MAX}) {
                refused("n " + n, Sentences::busy, x -> x.renew(0, 0, 0, n), OUTSIDE);
                due("n " + n + " where OWN is 0", Sentences.spent().renew(0, 0, 0, n), OUTSIDE);
            }
            due("n 1", deskOf("S1" + SQUARES).renew(0, 0, 0, 1), 1);
            due("n 30", deskOf("S1" + SQUARES).renew(0, 0, 0, 30), 1);
        });
        says("STATE: OWN is 0.", () -> refused("renew", Sentences::spent, x -> x.renew(0, 0, 0, 1), STATE));
    }

    private static void widen() {
        open(14);
        says("WIDENED: what it was.", () -> {
            SpentPasses x = new SpentPasses();
            due("from 1 to 6", x.widen(6), 1);
            due("from 6 to 1", x.widen(1), 6);
            due("from 1 to 1", x.widen(1), 1);
            due("WINDOW", x.count(2), 1);
        });
        says("OUTSIDE: w (1 to 6).", () -> {
            for (int w : new int[] {0, -1, 7, MIN, MAX}) {
                refused("widen to " + w, Sentences::busy, x -> x.widen(w), OUTSIDE);
            }
        });
    }

    private static void undo() {
        open(15);
        says("The last ACT is undone:", () -> {
            dueUndone("SENT", x -> x.send(0));
            dueUndone("SENT, not taken", x -> x.send(1));
            dueUndone("MISSED", x -> x.miss(0));
            dueUndone("TRIED", x -> x.attempt(0, 226));
            dueUndone("TRIED, not taken", x -> x.attempt(0, 0));
            dueUndone("HEARD", SpentPasses::hear);
            dueUndone("ANEW", x -> x.renew(0, 250, 250, 30));
            dueUndone("ANEW, not taken", x -> x.renew(1, 250, 250, 30));
            dueUndone("WIDENED", x -> x.widen(6));
        });
        says("how many are left.", () -> {
            SpentPasses x = new SpentPasses();
            for (int i = 0; i < 16; i++) {
                x.widen(2);
            }
            for (int left = 13; left >= 0; left--) {
                due("undo", x.undo(), left);
                due("ACTS", x.count(5), left);
            }
        });
        says("STATE: there is none.", () -> {
            refused("undo", SpentPasses::new, SpentPasses::undo, STATE);
            refused("undo", () -> deskOf("S1" + SQUARES + "s0"), SpentPasses::undo, STATE);
            SpentPasses x = new SpentPasses();
            x.widen(2);
            due("the one there is", x.undo(), 0);
            due("no more", x.undo(), STATE);
        });
    }

    /** Of two users the first is in step, and the second is not. */
    private static void dueUndone(String act, ToLongFunction<SpentPasses> done) {
        Supplier<SpentPasses> made = () -> {
            SpentPasses x = deskOf("S1" + SQUARES + SQUARES + "s0m1");
            x.keep(0);
            x.hear();
            x.keep(1);
            x.see(0, 1, 4);
            x.seed(5);
            return x;
        };
        SpentPasses changed = made.get();
        String before = Sentences.standing(changed);
        done.applyAsLong(changed);
        due(act + " is something", Sentences.standing(changed).equals(before) ? 0 : 1, 1);
        Sentences.unchanged(act + " and undo", made, x -> {
            done.applyAsLong(x);
            return x.undo();
        });
    }

    private static void fits() {
        open(16);
        says("By which k a NUMBER FITS a USER now;", () -> {
            int[] ahead = {123, 226, 5, 16, 4, 249, 91};
            SpentPasses x = deskOf("S6" + LONGER);
            for (int k = 1; k <= 6; k++) {
                due(k + " ahead", x.fits(0, ahead[k]), k);
            }
            due("0", deskOf("S1" + NOUGHTS).fits(0, 0), 1);
            due("250", deskOf("S1" + PAIRS).fits(0, 250), 1);
            Sentences.unchanged("fits", Sentences::busy, y -> y.fits(0, 5));
        });
        says("0: it does not.", () -> {
            due("LAST itself", deskOf("S6" + LONGER).fits(0, 123), 0);
            due("6 ahead by a window of 5", deskOf("S5" + LONGER).fits(0, 91), 0);
            due("6 ahead where 5 are left", deskOf("S6" + SQUARES).fits(0, 91), 0);
            due("LEFT is 0", deskOf("S6u00000001s0").fits(0, 0), 0);
        });
        says("UNKNOWN;", () -> {
            dueUnknown("fits of 0", (x, user) -> x.fits(user, 0));
            dueUnknown("fits of 251", (x, user) -> x.fits(user, 251));
        });
        says("OUTSIDE: v.", () -> {
            for (int v : NO_NUMBER) {
                refused("fits " + v, Sentences::busy, x -> x.fits(0, v), OUTSIDE);
            }
            due("251, though 0 fits", deskOf("S1" + NOUGHTS).fits(0, 251), OUTSIDE);
        });
    }

    private static void fitting() {
        open(17);
        says("FITTING: how many (what = 0),", () -> {
            due("none", deskOf("S6u00000001s0").fitting(0, 0), 0);
            due("one", deskOf("S6" + NOUGHTS).fitting(0, 0), 1);
            due("twelve", deskOf("S6" + LONGER).fitting(0, 0), 12);
        });
        says("the least (1; NONE).", () -> {
            due("none", deskOf("S6u00000001s0").fitting(0, 1), NONE);
            due("0", deskOf("S6" + NOUGHTS).fitting(0, 1), 0);
            due("2", deskOf("S6" + LONGER).fitting(0, 1), 2);
        });
        says("UNKNOWN;", () -> {
            dueUnknown("fitting, 0", (x, user) -> x.fitting(user, 0));
            dueUnknown("fitting, 2", (x, user) -> x.fitting(user, 2));
        });
        says("OUTSIDE.", () -> {
            for (int what : new int[] {-1, 2, MIN, MAX}) {
                refused("what " + what, Sentences::busy, x -> x.fitting(0, what), OUTSIDE);
            }
        });
    }

    private static void thief() {
        open(18);
        says("THIEF;", () -> {
            SpentPasses x = deskOf("S1u00200011");
            x.attempt(0, 2);
            x.hear();
            due("10 behind what was heard", x.thief(0), 125);
            Sentences.unchanged("thief", Sentences::full, y -> y.thief(0));
        });
        says("NONE.", () -> {
            due("nothing was heard", deskOf("S1" + NOUGHTS + "s0").thief(0), NONE);
            SpentPasses x = deskOf("S1u00200012");
            x.attempt(0, 2);
            x.hear();
            due("11 behind what was heard", x.thief(0), NONE);
            SpentPasses spent = deskOf("S6u00000001s0");
            spent.hear();
            due("LEFT is 0", spent.thief(0), NONE);
        });
        says("UNKNOWN.", () -> dueUnknown("thief", SpentPasses::thief));
    }

    private static void heard() {
        open(19);
        says("The i-th (from 0) that was HEARD: 1000 times the USER, and the NUMBER;", () -> {
            SpentPasses x = deskOf("S1" + NOUGHTS + NOUGHTS + NOUGHTS + NOUGHTS);
            for (int i = 0; i < 8; i++) {
                x.attempt(i % 4, 250 * (i / 4));
                x.hear();
            }
            for (int i = 0; i < 8; i++) {
                due("heard " + i, x.heard(i), 1000 * (i % 4) + 250 * (i / 4));
            }
        });
        says("NONE: there are not so many (below 0, too).", () -> {
            due("the first of none", new SpentPasses().heard(0), NONE);
            SpentPasses x = deskOf("S1" + NOUGHTS + "s0");
            x.hear();
            due("the first of one", x.heard(0), 0);
            for (int i : new int[] {1, 8, -1, MIN, MAX}) {
                due("heard " + i + " of one", x.heard(i), NONE);
                due("heard " + (i == 1 ? 9 : i) + " of eight", Sentences.full().heard(i == 1 ? 9 : i), NONE);
            }
            x.undo();
            due("undone", x.heard(0), NONE);
            Sentences.unchanged("heard -1", Sentences::busy, y -> y.heard(-1));
        });
    }

    private static void judge() {
        open(20);
        says("JUDGED;", () -> {
            SpentPasses x = deskOf("S1u00000001");
            due("the first", x.judge(4, 0), 0);
            due("the fourth", x.judge(4, 7100720073001001L), 3);
            due("the second, done once already", x.judge(4, 1000100010001000L), 1);
        });
        says("NONE.", () -> {
            SpentPasses x = deskOf("S1u00000001");
            due("one", x.judge(1, 1000), NONE);
            due("four", x.judge(4, 3001100030004000L), NONE);
            Sentences.unchanged("judge", Sentences::busy, y -> y.judge(4, 7100720010002000L));
        });
        says("OUTSIDE: n,", () -> {
            for (int n : new int[] {0, -1, 5, MIN, MAX}) {
                refused("n " + n, Sentences::busy, x -> x.judge(n, 0), OUTSIDE);
                refused("n " + n, Sentences::busy, x -> x.judge(n, 7100), OUTSIDE);
            }
        });
        says("row (0 or more,", () -> {
            for (int n = 1; n <= 4; n++) {
                int doings = n;
                for (long row : new long[] {-1, -7100, Long.MIN_VALUE}) {
                    refused("row " + row + " of " + n, Sentences::busy, x -> x.judge(doings, row), OUTSIDE);
                }
                due("row 0 of " + n, Sentences.busy().judge(n, 0), 0);
            }
        });
        says("4 n figures at most).", () -> {
            long most = 1;
            for (int n = 1; n <= 4; n++) {
                most *= 10000;
                long more = most;
                int doings = n;
                due("the most of " + n, Sentences.busy().judge(n, most - 1), 0);
                refused("one more of " + n, Sentences::busy, x -> x.judge(doings, more), OUTSIDE);
                refused("far more of " + n, Sentences::busy, x -> x.judge(doings, Long.MAX_VALUE), OUTSIDE);
            }
        });
    }

    private static void see() {
        open(21);
        says("SEEN: how many there are.", () -> {
            SpentPasses x = new SpentPasses();
            for (int count = 1; count <= 6; count++) {
                due("see", x.see(3, 29, 250), count);
            }
        });
        says("UNKNOWN: user (0 to 3, be there such a one or not);", () -> {
            for (int user = 0; user < 4; user++) {
                due("user " + user + " of none", new SpentPasses().see(user, 0, 0), 1);
            }
            for (int user : new int[] {-1, 4, MIN, MAX}) {
                refused("user " + user, Sentences::busy, x -> x.see(user, 0, 0), UNKNOWN);
                due("ahead of OUTSIDE", Sentences.busy().see(user, 30, 251), UNKNOWN);
                due("ahead of FULL", Sentences.full().see(user, 0, 0), UNKNOWN);
            }
        });
        says("OUTSIDE: i (0 to 29),", () -> {
            for (int i : new int[] {-1, 30, MIN, MAX}) {
                refused("i " + i, Sentences::busy, x -> x.see(0, i, 0), OUTSIDE);
                due("ahead of FULL", Sentences.full().see(0, i, 0), OUTSIDE);
            }
            due("i 0", new SpentPasses().see(0, 0, 0), 1);
            due("i 29", new SpentPasses().see(0, 29, 0), 1);
        });
        says("v;", () -> {
            for (int v : NO_NUMBER) {
                refused("v " + v, Sentences::busy, x -> x.see(0, 0, v), OUTSIDE);
                due("ahead of FULL", Sentences.full().see(0, 0, v), OUTSIDE);
            }
            due("v 0", new SpentPasses().see(0, 0, 0), 1);
            due("v 250", new SpentPasses().see(0, 0, 250), 1);
        });
        says("FULL: 6.", () -> {
            refused("the seventh", Sentences::full, x -> x.see(0, 0, 0), FULL);
            SpentPasses x = Sentences.full();
            x.unsee();
            due("room again", x.see(0, 0, 0), 1);
        });
    }

    private static void unsee() {
        open(22);
        says("Nothing is SEEN: how much there was.", () -> {
            due("nothing", new SpentPasses().unsee(), 0);
            SpentPasses x = Sentences.full();
            due("all six", x.unsee(), 6);
            due("SEEN", x.count(6), 0);
            due("all SEEDS", x.which(0), 251);
            due("once more", x.unsee(), 0);
        });
    }

    private static void which() {
        open(23);
        says("WHICH: how many (what = 0),", () -> {
            SpentPasses x = deskOf("S1" + SQUARES);
            due("all", x.which(0), 251);
            x.see(0, 1, 4);
            due("two", x.which(0), 2);
            x.see(0, 0, 250);
            due("none", x.which(0), 0);
        });
        says("the least (1; NONE).", () -> {
            SpentPasses x = deskOf("S1" + SQUARES);
            due("of all", x.which(1), 0);
            x.see(0, 0, 250);
            due("of one", x.which(1), 250);
            x.see(0, 1, 4);
            due("of none", x.which(1), NONE);
        });
        says("OUTSIDE.", () -> {
            for (int what : new int[] {-1, 2, MIN, MAX}) {
                refused("what " + what, Sentences::busy, x -> x.which(what), OUTSIDE);
            }
        });
    }

    private static void dueFraction(String what, long above, long below, int wantAbove, int wantBelow) {
        due(what + ", above", above, wantAbove);
        due(what + ", below", below, wantBelow);
    }

    private static void share() {
        open(24);
        says("SHARE.", () -> {
            SpentPasses alone = deskOf("S6" + LONGER);
            dueFraction("alone", alone.share(0, true), alone.share(0, false), 12, 1);
            SpentPasses four = deskOf("S1" + SQUARES + SQUARES + SQUARES + SQUARES);
            dueFraction("one of four", four.share(3, true), four.share(3, false), 1, 2);
            SpentPasses none = deskOf("S1u00000001" + NOUGHTS + "s0");
            dueFraction("none", none.share(0, true), none.share(0, false), 0, 1);
            dueFraction("all", none.share(1, true), none.share(1, false), 1, 1);
        });
        says("UNKNOWN.", () -> {
            dueUnknown("share, above", (x, user) -> x.share(user, true));
            dueUnknown("share, below", (x, user) -> x.share(user, false));
        });
    }

    private static void guess() {
        open(25);
        says("GUESS.", () -> {
            SpentPasses x = deskOf("S6" + LONGER + "u00000001s1");
            dueFraction("none is guessed", x.guess(0, 0, true), x.guess(0, 0, false), 0, 1);
            dueFraction("one", x.guess(0, 1, true), x.guess(0, 1, false), 12, 251);
            dueFraction("three", x.guess(0, 3, true), x.guess(0, 3, false), 2161332, 15813251);
            dueFraction("none fits", x.guess(1, 3, true), x.guess(1, 3, false), 0, 1);
        });
        says("UNKNOWN;", () -> {
            dueUnknown("guess, above", (x, user) -> x.guess(user, 0, true));
            dueUnknown("guess, below", (x, user) -> x.guess(user, 4, false));
        });
        says("OUTSIDE: n.", () -> {
            for (int n : new int[] {-1, 4, MIN, MAX}) {
                refused("n " + n + ", above", Sentences::busy, x -> x.guess(0, n, true), OUTSIDE);
                refused("n " + n + ", below", Sentences::busy, x -> x.guess(0, n, false), OUTSIDE);
            }
        });
    }

    private static void loss() {
        open(26);
        says("LOSS.", () -> {
            SpentPasses x = deskOf("S1u00200030" + LONGER);
            dueFraction("none is sent", x.loss(0, 0, 10, true), x.loss(0, 0, 10, false), 1, 1);
            dueFraction("six, none missed", x.loss(0, 6, 0, true), x.loss(0, 6, 0, false), 1, 1);
            dueFraction("six, all missed", x.loss(0, 6, 10, true), x.loss(0, 6, 10, false), 0, 1);
            dueFraction("six by a tenth", x.loss(0, 6, 1, true), x.loss(0, 6, 1, false), 531441, 1000000);
            dueFraction("six of six", x.loss(1, 6, 0, true), x.loss(1, 6, 0, false), 0, 1);
        });
        says("UNKNOWN;", () -> {
            dueUnknown("loss, above", (x, user) -> x.loss(user, 0, 0, true));
            dueUnknown("loss, below", (x, user) -> x.loss(user, 7, 11, false));
        });
        says("OUTSIDE: r (0 to 6),", () -> {
            for (int r : new int[] {-1, 7, MIN, MAX}) {
                refused("r " + r + ", above", Sentences::busy, x -> x.loss(0, r, 0, true), OUTSIDE);
                refused("r " + r + ", below", Sentences::busy, x -> x.loss(0, r, 0, false), OUTSIDE);
                due("r " + r + " where OWN is 0", Sentences.spent().loss(0, r, 0, true), OUTSIDE);
                due("r " + r + " where OWN is 30", deskOf("S1u00000030").loss(0, r, 0, true), OUTSIDE);
            }
        });
        says("x;", () -> {
            for (int x : new int[] {-1, 11, MIN, MAX}) {
                refused("x " + x + ", above", Sentences::busy, y -> y.loss(0, 1, x, true), OUTSIDE);
                refused("x " + x + ", below", Sentences::busy, y -> y.loss(0, 1, x, false), OUTSIDE);
                due("x " + x + " where nothing is sent", Sentences.busy().loss(0, 0, x, true), OUTSIDE);
                due("x " + x + " where OWN is 0", Sentences.spent().loss(0, 1, x, true), OUTSIDE);
            }
        });
        says("STATE: r is more than OWN.", () -> {
            refused("1 of 0, above", Sentences::spent, x -> x.loss(0, 1, 0, true), STATE);
            refused("1 of 0, below", Sentences::spent, x -> x.loss(0, 1, 0, false), STATE);
            due("0 of 0", Sentences.spent().loss(0, 0, 0, true), 0);
            due("5 of 5", deskOf("S1" + SQUARES).loss(0, 5, 0, false), 1);
            refused("6 of 5", () -> deskOf("S1" + SQUARES), x -> x.loss(0, 6, 0, true), STATE);
            due("by OWN, not by LEFT", deskOf("S1" + SQUARES + "m0").loss(0, 5, 0, true), STATE);
        });
    }

    private static void seed() {
        open(27);
        says("THE SEED OF DAYS is v: what it was.", () -> {
            SpentPasses x = new SpentPasses();
            due("0 at first", x.seed(Long.MIN_VALUE), 0);
            due("the least", x.seed(Long.MAX_VALUE), Long.MIN_VALUE);
            due("the greatest", x.seed(-1), Long.MAX_VALUE);
            due("-1", x.seed(1L << 32), -1);
            due("more than an int", x.seed(0), 1L << 32);
        });
    }

    private static void drawn() {
        open(28);
        says("DRAWN.", () -> {
            String four = "S1" + NOUGHTS + NOUGHTS + NOUGHTS + NOUGHTS;
            due("one day", deskOf(four).drawn(1), 1);
            due("sixty days of nobody", new SpentPasses().drawn(60), 0);
            due("sixty days of one pass each", deskOf("S1u00000001").drawn(60), 1);
            SpentPasses x = deskOf(four);
            x.seed(Long.MAX_VALUE);
            x.drawn(1);
            due("wrapping", x.seed(0), 1442695040888963407L - 6364136223846793005L + Long.MIN_VALUE);
        });
        says("OUTSIDE: m.", () -> {
            for (int m : new int[] {0, -1, 61, MIN, MAX}) {
                refused("m " + m, Sentences::busy, x -> x.drawn(m), OUTSIDE);
            }
        });
    }

    private static void keep() {
        open(29);
        says("They are kept: how many USERS.", () -> {
            String text = "S1";
            for (int users = 0; users <= 4; users++) {
                SpentPasses x = deskOf(text);
                due("keep in 0", x.keep(0), users);
                due("keep in 1", x.keep(1), users);
                text += NOUGHTS;
            }
            SpentPasses x = deskOf("S1" + SQUARES);
            x.keep(0);
            x.miss(0);
            x.keep(0);
            x.miss(0);
            x.again(0);
            due("the last one kept", x.user(0, 3), 4);
            due("the other slot is empty", x.again(1), STATE);
        });
        says("UNKNOWN.", () -> {
            for (int slot : new int[] {-1, 2, MIN, MAX}) {
                refused("keep in " + slot, Sentences::busy, x -> x.keep(slot), UNKNOWN);
                refused("keep in " + slot, Sentences::full, x -> x.keep(slot), UNKNOWN);
            }
        });
    }

    private static void again() {
        open(30);
        says("They are as they were kept: how many USERS.", () -> {
            String text = "S1";
            for (int users = 0; users <= 4; users++) {
                SpentPasses x = deskOf(text);
                x.keep(1);
                x.widen(6);
                due("again", x.again(1), users);
                due("USERS", x.count(1), users);
                due("WINDOW", x.count(2), 1);
                text += NOUGHTS;
            }
            SpentPasses x = deskOf("S1" + SQUARES);
            x.keep(0);
            for (int i = 0; i < 3; i++) {
                x.miss(0);
                due("once more", x.again(0), 1);
                due("what was kept stays", x.user(0, 3), 5);
            }
        });
        says("UNKNOWN;", () -> {
            for (int slot : new int[] {-1, 2, MIN, MAX}) {
                refused("again of " + slot, Sentences::busy, x -> x.again(slot), UNKNOWN);
                refused("again of " + slot + " where none were kept", Sentences::full, x -> x.again(slot), UNKNOWN);
            }
        });
        says("STATE: none were kept.", () -> {
            for (int slot = 0; slot <= 1; slot++) {
                int empty = slot;
                refused("again of " + slot, Sentences::full, x -> x.again(empty), STATE);
                refused("again of " + slot + " where the other was kept", () -> {
                    SpentPasses x = Sentences.full();
                    x.keep(1 - empty);
                    return x;
                }, x -> x.again(empty), STATE);
            }
        });
    }

    private static void count() {
        open(31);
        says("0 letters of THE TEXT,", () -> {
            due("none", new SpentPasses().count(0), 0);
            due("all", Sentences.full().count(0), 80);
        });
        says("1 USERS,", () -> {
            due("none", new SpentPasses().count(1), 0);
            due("all", deskOf("S1" + NOUGHTS + NOUGHTS + NOUGHTS + NOUGHTS).count(1), 4);
        });
        says("2 WINDOW,", () -> {
            due("the least", deskOf("S1").count(2), 1);
            due("the greatest", deskOf("S6").count(2), 6);
        });
        says("3 what is on THE WIRE (1000 times the USER, and the NUMBER; NONE),", () -> {
            SpentPasses x = deskOf("S1" + NOUGHTS + NOUGHTS + NOUGHTS + NOUGHTS);
            due("nothing", x.count(3), NONE);
            x.attempt(0, 0);
            due("the least", x.count(3), 0);
            x.attempt(3, 250);
            due("the greatest", x.count(3), 3250);
        });
        says("4 how much was HEARD,", () -> {
            due("nothing", new SpentPasses().count(4), 0);
            due("all", Sentences.full().count(4), 8);
        });
        says("5 ACTS in the row,", () -> {
            SpentPasses x = new SpentPasses();
            due("none", x.count(5), 0);
            for (int act = 1; act <= 15; act++) {
                x.widen(1);
                due("ACTS", x.count(5), Math.min(14, act));
            }
        });
        says("6 SEEN.", () -> {
            due("nothing", new SpentPasses().count(6), 0);
            due("all", Sentences.full().count(6), 6);
        });
        says("OUTSIDE.", () -> {
            for (int what : new int[] {-1, 7, MIN, MAX}) {
                refused("what " + what, Sentences::busy, x -> x.count(what), OUTSIDE);
            }
        });
    }
}
