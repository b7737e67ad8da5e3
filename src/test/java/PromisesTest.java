/** Each promise by hand: ordinary calls, the edges, and refusals in their row, which change nothing. */
public final class PromisesTest {
    private static final int UNKNOWN = SpentPasses.UNKNOWN, OUTSIDE = SpentPasses.OUTSIDE, STATE = SpentPasses.STATE,
        FULL = SpentPasses.FULL, NONE = SpentPasses.NONE;
    private static final int MIN = Integer.MIN_VALUE, MAX = Integer.MAX_VALUE;
    /** Passes 2, 4, 16, 5, 25; the desk's last is 123. 25 and 226 are 1 ahead of it, 5 and 246 2, 16 and 235 3. */
    private static final String SQUARES = "u00200005";
    /** Passes 1, 4, 19, 113, 222, 91, and round again: the last of 6 or 12 is 1. 91 and 160 are 1 ahead of it. */
    private static final String ROUND = "u00100306";

    private static int promise = 0;
    private static int checks = 0;
    private static int wrong = 0;

    public static void main(String[] args) {
        newObject();
        write();
        wipe();
        fault();
        desk();
        user();
        pass();
        behind();
        send();
        miss();
        attempt();
        hear();
        renew();
        widen();
        undo();
        fits();
        fitting();
        thief();
        heard();
        judge();
        see();
        unsee();
        which();
        share();
        guess();
        loss();
        seed();
        drawn();
        keep();
        again();
        count();
        System.out.println(wrong == 0 ? checks + " answers are as due" : wrong + " answers are not as due");
        if (wrong != 0 || promise != 31) {
            System.exit(1);
        }
    }

    private static void due(String call, long got, long want) {
        checks++;
        if (got != want) {
            wrong++;
            System.out.println("promise " + promise + ": " + call + " answered " + got + ", due is " + want);
        }
    }

    private static void spell(SpentPasses x, String text) {
        x.wipe();
        for (int i = 0; i < text.length(); i++) {
            x.write(text.charAt(i));
        }
    }

    private static SpentPasses deskOf(String text) {
        SpentPasses x = new SpentPasses();
        spell(x, text);
        int users = x.desk();
        if (users < 0) {
            due("desk of " + text, users, 0);
        }
        return x;
    }

    /** OWN, LAST, LEFT, what is on the wire, how many acts. */
    private static void stands(String when, SpentPasses x, int user, int own, int last, int left, int wire, int acts) {
        due(when + ": OWN", x.user(user, 3), own);
        due(when + ": LAST", x.user(user, 4), last);
        due(when + ": LEFT", x.user(user, 5), left);
        due(when + ": THE WIRE", x.count(3), wire);
        due(when + ": ACTS", x.count(5), acts);
    }

    private static void newObject() {
        promise = 1;
        SpentPasses x = new SpentPasses();
        for (int what = 0; what <= 6; what++) {
            due("count " + what, x.count(what), what == 2 ? 1 : what == 3 ? NONE : 0);
        }
        due("user", x.user(0, 0), UNKNOWN);
        due("heard", x.heard(0), NONE);
        due("undo", x.undo(), STATE);
        due("again 0", x.again(0), STATE);
        due("again 1", x.again(1), STATE);
        due("seed", x.seed(5), 0);
        due("another object has its own", new SpentPasses().seed(1), 0);
        SpentPasses used = deskOf("S1u00000030");
        for (int call = 14; call < 512; call++) {
            due("call " + call, used.attempt(0, 1), 0);
        }
        due("the 512th call", used.count(5), 14);
    }

    private static void write() {
        promise = 2;
        SpentPasses x = new SpentPasses();
        due("the least", x.write(0), 1);
        due("the greatest", x.write(255), 2);
        for (int letter : new int[] {-1, 256, MIN, MAX}) {
            due("letter " + letter, x.write(letter), OUTSIDE);
        }
        due("nothing came", x.count(0), 2);
        for (int length = 3; length <= 80; length++) {
            due("letter", x.write('s'), length);
        }
        due("the 81st", x.write('s'), FULL);
        due("OUTSIDE ahead of FULL", x.write(256), OUTSIDE);
        due("how long", x.count(0), 80);
        x.wipe();
        due("room again", x.write('S'), 1);
        due("ACTS", x.count(5), 0);
    }

    private static void wipe() {
        promise = 3;
        SpentPasses x = deskOf("S3" + SQUARES);
        due("wipe", x.wipe(), 11);
        due("wipe again", x.wipe(), 0);
        due("length", x.count(0), 0);
        due("fault of none", x.fault(), 0);
        due("users stay", x.count(1), 1);
        due("window stays", x.count(2), 3);
        due("old letters are gone", x.write('S'), 1);
        due("old letters are not read", x.fault(), 1);
    }

    private static void faultOf(String text, int want) {
        SpentPasses x = new SpentPasses();
        spell(x, text);
        due("fault of " + text, x.fault(), want);
        due("fault of " + text + " again", x.fault(), want);
        due("length", x.count(0), text.length());
        due("users", x.count(1), 0);
        due("window", x.count(2), 1);
    }

    private static void fault() {
        promise = 4;
        String[] faultless = {"S1", "S6", "S1u00000001", "S1u25025030", "S1u19919929", "S1u20924910", "S1u24920009",
            "S1u00000001s0", "S1u00000001m0", "S1u00000001u00000001s0s1", "S1u00000002s0m0",
            "S1u00000001u00000001u00000001u00000001m3s2m1s0"};
        for (String text : faultless) {
            faultOf(text, NONE);
        }
        String[] begun = {"", "S", "S1u", "S1u2", "S1u25", "S1u250", "S1u199", "S1u1992", "S1u19925", "S1u199250",
            "S1u1992500", "S1u1992503", "S1u1992501", "S1u00000001s", "S1u00000001m", "S1u00000001u",
            "S1u00000001u00000001s0s"};
        for (String text : begun) {
            faultOf(text, text.length());
        }
        String[] lastIsWrong = {"s", "1", " ", "S0", "S7", "S ", "Su", "S11", "S1U", "S1 ", "S1x", "S1s", "S1m",
            "S1u3", "S1us", "S1u26", "S1u2:", "S1u0:", "S1u00:", "S1u0/", "S1u00/", "S1u0000001:", "S1u0000001/",
            "S1u000000:", "S1u000000/", "S1u/", "S1u251", "S1u25/", "S1u0003", "S1u00026", "S1u000251", "S1u0000004",
            "S1u00000000", "S1u00000031", "S1u0000003x", "S1u00000001x", "S1u00000001 ", "S1u00000001s1",
            "S1u00000001s/", "S1u00000001s4", "S1u00000001m1", "S1u00000001s0s", "S1u00000001s0m", "S1u00000001m0s",
            "S1u00000002s0u", "S1u00000002m0u", "S1u00000001u00000001s0s0", "S1u00000001u00000001s0s1m",
            "S1u00000001u00000001u00000001u00000001u", "S1u00000001" + (char) 0, "S1u00000001" + (char) 255};
        for (String text : lastIsWrong) {
            faultOf(text, text.length() - 1);
            faultOf(text + "x", text.length() - 1);
        }
        faultOf("S1u26000030u00000001", 4);
        String row = "u00000030";
        String full = "S1" + row + row + row + row + "s0s1s2s3m0m1m2m3s0s1s2s3m0m1m2m3s0s1s2s3m0";
        due("length", full.length(), 80);
        faultOf(full, NONE);
        String cut = "S1" + row + row + row + "s0s1s2m0m1m2s0s1s2m0m1m2s0s1s2m0m1m2s0s1s2m0m1m2s0" + "s";
        due("length", cut.length(), 80);
        faultOf(cut, 80);
    }

    private static void desk() {
        promise = 5;
        SpentPasses x = new SpentPasses();
        due("none told", x.desk(), STATE);
        spell(x, "S4");
        due("nobody", x.desk(), 0);
        due("window", x.count(2), 4);
        spell(x, "S2" + SQUARES + ROUND + "s0m0s0");
        due("fault alone changes nothing", x.fault(), NONE);
        due("nobody yet", x.count(1), 0);
        due("desk", x.desk(), 2);
        due("the text stays", x.count(0), 26);
        stands("a lost pass is stepped over", x, 0, 2, 16, 2, 16, 0);
        stands("the other", x, 1, 6, 1, 6, 16, 0);
        due("SEED", x.user(0, 0), 2);
        due("SALT", x.user(1, 1), 3);
        due("N", x.user(1, 2), 6);
        x.send(0);
        x.hear();
        x.keep(0);
        x.keep(1);
        x.see(0, 1, 2);
        x.seed(77);
        spell(x, "S2" + SQUARES + "x");
        due("a fault", x.desk(), STATE);
        due("text stays", x.count(0), 12);
        due("users stay", x.count(1), 2);
        due("heard stays", x.count(4), 1);
        due("acts stay", x.count(5), 2);
        stands("as it was", x, 0, 1, 4, 1, 4, 2);
        spell(x, "S3" + ROUND);
        due("another desk", x.desk(), 1);
        stands("as at first", x, 0, 6, 1, 6, NONE, 0);
        due("window", x.count(2), 3);
        due("nothing is heard", x.count(4), 0);
        due("heard", x.heard(0), NONE);
        due("no act", x.undo(), STATE);
        due("slot 0 is gone", x.again(0), STATE);
        due("slot 1 is gone", x.again(1), STATE);
        due("seen stays", x.count(6), 1);
        due("the seed of days stays", x.seed(0), 77);
        due("a missed pass is not on the wire", deskOf("S1" + SQUARES + "m0").count(3), NONE);
        due("four", deskOf("S1" + SQUARES + SQUARES + SQUARES + SQUARES).count(1), 4);
        due("the same desk twice", x.desk(), 1);
    }

    private static void user() {
        promise = 6;
        SpentPasses x = deskOf("S2" + SQUARES + "s0");
        int[] want = {2, 0, 5, 4, 25, 4, 1, 0, 1, 1, 20};
        for (int what = 0; what <= 10; what++) {
            due("what " + what, x.user(0, what), want[what]);
        }
        for (int what : new int[] {-1, 11, MIN, MAX}) {
            due("what " + what, x.user(0, what), OUTSIDE);
        }
        for (int user : new int[] {-1, 1, 4, MIN, MAX}) {
            due("user " + user, x.user(user, 0), UNKNOWN);
            due("UNKNOWN ahead of OUTSIDE", x.user(user, 11), UNKNOWN);
        }
        x.send(0);
        due("WARNED by 3 left", x.user(0, 7), 1);
        due("a row of 3 is WARNED", deskOf("S1u00000003").user(0, 7), 1);
        due("a row of 4 is not", deskOf("S1u00000004").user(0, 7), 0);
        due("missed passes do not warn", deskOf("S1u00000004m0").user(0, 7), 0);
        due("none but 0", deskOf("S1" + SQUARES).user(0, 8), 0);
        SpentPasses lost = deskOf("S1" + SQUARES + "m0");
        due("not IN STEP", lost.user(0, 6), 0);
        due("no GAP", lost.user(0, 8), NONE);
        SpentPasses round = deskOf("S1u00100312");
        due("GAP is the most, though not each less is one", round.user(0, 8), 6);
        due("GAP by a loop of 1", deskOf("S1u00000030").user(0, 8), 29);
        SpentPasses spent = deskOf("S6u00000001m0");
        due("none of its own: not IN STEP", spent.user(0, 6), 0);
        due("none of its own: no GAP", spent.user(0, 8), NONE);
        due("none of its own: LEFT", spent.user(0, 5), 1);
        SpentPasses drained = deskOf("S1u00000002");
        drained.attempt(0, 0);
        drained.attempt(0, 0);
        due("nothing left: not IN STEP", drained.user(0, 6), 0);
        due("nothing left: no GAP", drained.user(0, 8), NONE);
        due("nothing left: OWN", drained.user(0, 3), 2);
        SpentPasses loops = deskOf("S1u01200701u00100301u22209201u00000001");
        int[] tails = {4, 0, 47, 0};
        int[] lengths = {18, 6, 2, 1};
        for (int user = 0; user < 4; user++) {
            due("TAIL " + user, loops.user(user, 9), tails[user]);
            due("LOOP " + user, loops.user(user, 10), lengths[user]);
        }
        SpentPasses apart = deskOf("S2u25025004s0");
        apart.miss(0);
        due("IN STEP though LEFT is not OWN", apart.user(0, 6), 1);
    }

    private static void pass() {
        promise = 7;
        SpentPasses x = deskOf("S1" + SQUARES + ROUND + "s0m0");
        int[] row = {2, 4, 16, 5, 25};
        for (int i = 0; i < 5; i++) {
            due("pass " + i, x.pass(0, i), row[i]);
        }
        for (int i : new int[] {-1, 5, 30, MIN, MAX}) {
            due("pass " + i, x.pass(0, i), NONE);
        }
        due("of another", x.pass(1, 5), 91);
        due("too far", x.pass(1, 6), NONE);
        for (int user : new int[] {-1, 2, MIN, MAX}) {
            due("user " + user, x.pass(user, 0), UNKNOWN);
            due("UNKNOWN ahead of NONE", x.pass(user, -1), UNKNOWN);
        }
    }

    private static void behind() {
        promise = 8;
        SpentPasses x = new SpentPasses();
        due("0 behind", x.behind(2, 0, 0), 2);
        due("1 behind", x.behind(2, 0, 1), 4);
        due("5 behind", x.behind(2, 0, 5), 123);
        due("99 behind", x.behind(2, 0, 99), 91);
        due("by a salt", x.behind(1, 3, 5), 91);
        due("the greatest", x.behind(250, 250, 1), 0);
        due("and on", x.behind(250, 250, 2), 250);
        for (int v : new int[] {-1, 251, MIN, MAX}) {
            due("v " + v, x.behind(v, 0, 0), OUTSIDE);
            due("salt " + v, x.behind(0, v, 0), OUTSIDE);
        }
        for (int k : new int[] {-1, 100, MIN, MAX}) {
            due("k " + k, x.behind(0, 0, k), OUTSIDE);
        }
    }

    private static void send() {
        promise = 9;
        SpentPasses x = deskOf("S1" + SQUARES + ROUND);
        due("send", x.send(0), 1);
        stands("sent", x, 0, 4, 25, 4, 25, 1);
        due("another", x.send(1), 1);
        stands("the other sent", x, 1, 5, 91, 5, 1091, 2);
        stands("the first stays", x, 0, 4, 25, 4, 1091, 2);
        SpentPasses wide = deskOf("S3" + SQUARES + "m0m0");
        due("two lost", wide.send(0), 3);
        stands("stepped over", wide, 0, 2, 16, 2, 16, 1);
        SpentPasses narrow = deskOf("S2" + SQUARES + "m0m0");
        due("two lost, but a narrow window", narrow.send(0), 0);
        stands("not taken", narrow, 0, 2, 123, 5, 16, 1);
        SpentPasses one = deskOf("S1u00000001");
        due("the last one", one.send(0), 1);
        due("no more", one.send(0), STATE);
        stands("nothing left", one, 0, 0, 0, 0, 0, 1);
        for (int user : new int[] {-1, 2, MIN, MAX}) {
            due("user " + user, x.send(user), UNKNOWN);
        }
        due("refused ones are no acts", x.count(5), 2);
        SpentPasses drained = deskOf("S1u00000002");
        drained.attempt(0, 0);
        drained.attempt(0, 0);
        due("the desk has none left", drained.send(0), 0);
        stands("not taken", drained, 0, 1, 0, 0, 0, 3);
    }

    private static void miss() {
        promise = 10;
        SpentPasses x = deskOf("S1" + SQUARES + "s0");
        due("miss", x.miss(0), 3);
        stands("missed", x, 0, 3, 25, 4, 25, 1);
        due("miss", x.miss(0), 2);
        due("miss", x.miss(0), 1);
        due("miss", x.miss(0), 0);
        due("no more", x.miss(0), STATE);
        stands("none left", x, 0, 0, 25, 4, 25, 4);
        for (int user : new int[] {-1, 1, MIN, MAX}) {
            due("user " + user, x.miss(user), UNKNOWN);
        }
        due("acts", x.count(5), 4);
    }

    private static void attempt() {
        promise = 11;
        SpentPasses x = deskOf("S1" + SQUARES + ROUND);
        due("one that does not fit", x.attempt(0, 7), 0);
        stands("not taken", x, 0, 5, 123, 5, 7, 1);
        due("one that nobody told", x.attempt(0, 226), 1);
        stands("taken by chance", x, 0, 5, 226, 4, 226, 2);
        due("out of step", x.user(0, 6), 0);
        due("for another", x.attempt(1, 160), 1);
        stands("taken", x, 1, 6, 160, 5, 1160, 3);
        due("v -1", x.attempt(0, -1), OUTSIDE);
        due("v 251", x.attempt(0, 251), OUTSIDE);
        due("v MAX", x.attempt(0, MAX), OUTSIDE);
        due("v MIN", x.attempt(0, MIN), OUTSIDE);
        due("user 2", x.attempt(2, 0), UNKNOWN);
        due("UNKNOWN ahead of OUTSIDE", x.attempt(-1, 251), UNKNOWN);
        stands("refused", x, 1, 6, 160, 5, 1160, 3);
        due("the least", x.attempt(0, 0), 0);
        due("the greatest", x.attempt(0, 250), 0);
        SpentPasses spent = deskOf("S6u00000002m0m0");
        due("one with none of its own", spent.attempt(0, 0), 1);
        due("two behind", deskOf("S3" + SQUARES).attempt(0, 246), 2);
    }

    private static void hear() {
        promise = 12;
        SpentPasses x = deskOf("S1" + SQUARES + ROUND);
        due("nothing on the wire", x.hear(), STATE);
        x.miss(0);
        due("missed ones are not on it", x.hear(), STATE);
        due("acts", x.count(5), 1);
        x.attempt(1, 250);
        due("one that was not taken", x.hear(), 250);
        due("of whom", x.heard(0), 1250);
        due("the wire stays", x.count(3), 1250);
        x.send(1);
        due("one that was sent", x.hear(), 91);
        for (int i = 2; i < 8; i++) {
            due("alike", x.hear(), 91);
            due("how much", x.count(4), i + 1);
        }
        int acts = x.count(5);
        due("the ninth", x.hear(), FULL);
        due("how much", x.count(4), 8);
        due("acts", x.count(5), acts);
    }

    private static void renew() {
        promise = 13;
        SpentPasses x = deskOf("S1" + SQUARES + ROUND);
        x.attempt(0, 7);
        x.hear();
        due("renew", x.renew(0, 3, 1, 2), 1);
        due("SEED", x.user(0, 0), 3);
        due("SALT", x.user(0, 1), 1);
        due("N", x.user(0, 2), 2);
        stands("anew", x, 0, 2, 101, 2, 25, 3);
        due("what was heard stays", x.heard(0), 7);
        due("the new row", x.pass(0, 1), 10);
        due("it is taken", x.send(0), 1);
        x.miss(1);
        due("one that does not fit", x.renew(1, 9, 9, 9), 0);
        stands("one less alone", x, 1, 4, 1, 6, 1222, 6);
        due("SEED", x.user(1, 0), 1);
        due("SALT", x.user(1, 1), 3);
        due("N", x.user(1, 2), 6);
        for (int bad : new int[] {-1, 251, MIN, MAX}) {
            due("seed " + bad, x.renew(0, bad, 0, 1), OUTSIDE);
            due("salt " + bad, x.renew(0, 0, bad, 1), OUTSIDE);
        }
        for (int bad : new int[] {0, 31, MIN, MAX}) {
            due("n " + bad, x.renew(0, 0, 0, bad), OUTSIDE);
        }
        due("UNKNOWN ahead of OUTSIDE", x.renew(2, 251, 0, 1), UNKNOWN);
        due("user -1", x.renew(-1, 0, 0, 1), UNKNOWN);
        stands("refused", x, 1, 4, 1, 6, 1222, 6);
        x.miss(0);
        due("OWN is 0", x.renew(0, 0, 0, 1), STATE);
        due("OUTSIDE ahead of STATE", x.renew(0, 0, 0, 0), OUTSIDE);
        due("by a wide window", deskOf("S3" + SQUARES + "m0m0").renew(0, 250, 250, 30), 3);
        SpentPasses one = deskOf("S1u00000001");
        due("with the last one", one.renew(0, 250, 250, 30), 1);
        stands("thirty", one, 0, 30, 250, 30, 0, 1);
        due("a row of one", one.renew(0, 7, 0, 1), 1);
        stands("one", one, 0, 1, 49, 1, 0, 2);
    }

    private static void widen() {
        promise = 14;
        SpentPasses x = deskOf("S2" + SQUARES + "m0m0");
        due("not in step", x.user(0, 6), 0);
        due("widen", x.widen(6), 2);
        due("in step", x.user(0, 6), 1);
        due("widen", x.widen(1), 6);
        due("the same is an act too", x.widen(1), 1);
        due("acts", x.count(5), 3);
        for (int w : new int[] {0, 7, -1, MIN, MAX}) {
            due("w " + w, x.widen(w), OUTSIDE);
        }
        due("window", x.count(2), 1);
        due("acts", x.count(5), 3);
    }

    private static void undo() {
        promise = 15;
        SpentPasses x = deskOf("S1" + SQUARES + ROUND);
        due("none", x.undo(), STATE);
        x.send(0);
        x.miss(0);
        x.attempt(0, 7);
        x.hear();
        x.renew(1, 9, 8, 7);
        x.widen(5);
        due("WIDENED", x.undo(), 5);
        due("window", x.count(2), 1);
        due("ANEW", x.undo(), 4);
        stands("the old row", x, 1, 6, 1, 6, 7, 4);
        due("SEED", x.user(1, 0), 1);
        due("SALT", x.user(1, 1), 3);
        due("N", x.user(1, 2), 6);
        due("HEARD", x.undo(), 3);
        due("nothing is heard", x.count(4), 0);
        due("TRIED", x.undo(), 2);
        stands("the wire", x, 0, 3, 25, 4, 25, 2);
        due("MISSED", x.undo(), 1);
        stands("one more", x, 0, 4, 25, 4, 25, 1);
        due("SENT", x.undo(), 0);
        stands("as at first", x, 0, 5, 123, 5, NONE, 0);
        due("none", x.undo(), STATE);
        int[] windows = {2, 3, 4, 5, 6, 1, 2, 3, 4, 5, 6, 1, 2, 3, 4, 5, 6};
        for (int i = 0; i < windows.length; i++) {
            x.widen(windows[i]);
            due("acts", x.count(5), Math.min(14, i + 1));
        }
        for (int left = 13; left >= 8; left--) {
            due("undo", x.undo(), left);
        }
        due("six are undone", x.count(2), 6);
        x.widen(1);
        due("one more", x.count(5), 9);
        for (int left = 8; left >= 0; left--) {
            due("undo", x.undo(), left);
        }
        due("the first three are forgotten", x.undo(), STATE);
        due("window", x.count(2), 4);
        x.see(0, 0, 0);
        x.seed(3);
        x.miss(0);
        x.keep(0);
        x.wipe();
        due("undo", x.undo(), 0);
        due("seen stays", x.count(6), 1);
        due("text stays", x.count(0), 0);
        due("the seed of days stays", x.seed(0), 3);
        due("what was kept stays", x.again(0), 2);
        due("as kept", x.user(0, 3), 4);
    }

    private static void fits() {
        promise = 16;
        SpentPasses x = deskOf("S3" + SQUARES);
        int[] numbers = {25, 226, 5, 246, 16, 235, 4, 123, 0, 250};
        int[] by = {1, 1, 2, 2, 3, 3, 0, 0, 0, 0};
        for (int i = 0; i < numbers.length; i++) {
            due("number " + numbers[i], x.fits(0, numbers[i]), by[i]);
        }
        due("no more than LEFT", deskOf("S6" + SQUARES + "s0s0s0").fits(0, 91), 0);
        due("as far as LEFT", deskOf("S6" + SQUARES + "s0s0s0").fits(0, 249), 2);
        due("LEFT is 0", deskOf("S6u00000001s0").fits(0, 0), 0);
        due("the least k", deskOf("S6u25025004").fits(0, 0), 1);
        due("the least k", deskOf("S6u25025004").fits(0, 250), 2);
        due("by a window of 6", deskOf("S6" + ROUND).fits(0, 1), 6);
        due("by a window of 5", deskOf("S5" + ROUND).fits(0, 1), 0);
        for (int v : new int[] {-1, 251, 276, MIN, MAX}) {
            due("v " + v, x.fits(0, v), OUTSIDE);
        }
        due("user 1", x.fits(1, 0), UNKNOWN);
        due("UNKNOWN ahead of OUTSIDE", x.fits(-1, 251), UNKNOWN);
        stands("nothing changes", x, 0, 5, 123, 5, NONE, 0);
    }

    private static void fitting() {
        promise = 17;
        SpentPasses x = deskOf("S3" + SQUARES + "u00000001s1");
        due("how many", x.fitting(0, 0), 6);
        due("the least", x.fitting(0, 1), 5);
        due("none", x.fitting(1, 0), 0);
        due("none is the least", x.fitting(1, 1), NONE);
        due("0 may be the least", deskOf("S1u00000001").fitting(0, 1), 0);
        due("0 alone", deskOf("S1u00000001").fitting(0, 0), 1);
        due("a narrow window", deskOf("S1" + SQUARES).fitting(0, 0), 2);
        due("a narrow window", deskOf("S1" + SQUARES).fitting(0, 1), 25);
        for (int what : new int[] {-1, 2, MIN, MAX}) {
            due("what " + what, x.fitting(0, what), OUTSIDE);
        }
        due("user 2", x.fitting(2, 0), UNKNOWN);
        due("UNKNOWN ahead of OUTSIDE", x.fitting(-1, 2), UNKNOWN);
    }

    private static void thief() {
        promise = 18;
        SpentPasses x = deskOf("S1" + SQUARES + SQUARES);
        due("nothing was heard", x.thief(0), NONE);
        x.attempt(0, 201);
        x.hear();
        due("11 behind it is too far", x.thief(0), NONE);
        x.widen(2);
        due("10 behind it", x.thief(0), 5);
        due("heard of another", x.thief(1), NONE);
        x.widen(1);
        x.attempt(0, 241);
        x.hear();
        due("10 behind the second", x.thief(0), 25);
        SpentPasses odd = deskOf("S1" + SQUARES);
        odd.attempt(0, 94);
        odd.hear();
        due("7 behind it", odd.thief(0), 25);
        odd.attempt(0, 0);
        odd.hear();
        due("by one of two", odd.thief(0), 25);
        SpentPasses second = deskOf("S1u00000009u00000009");
        second.attempt(1, 0);
        second.hear();
        due("0 of user 1, heard of the second", second.thief(1), 0);
        due("0 of user 1, heard of the first", second.thief(0), NONE);
        SpentPasses two = deskOf("S2" + SQUARES);
        two.attempt(0, 248);
        two.hear();
        two.attempt(0, 0);
        two.hear();
        two.renew(0, 0, 3, 2);
        due("248 by 1, but 0 by 2", two.thief(0), 0);
        SpentPasses itself = deskOf("S1" + SQUARES);
        itself.attempt(0, 246);
        itself.hear();
        itself.attempt(0, 5);
        itself.hear();
        itself.widen(2);
        due("what was heard itself, the least of them", itself.thief(0), 5);
        SpentPasses anew = deskOf("S1" + SQUARES + "s0");
        anew.hear();
        due("by the old salt", anew.thief(0), NONE);
        due("renew", anew.renew(0, 130, 7, 1), 1);
        due("by the new salt", anew.thief(0), 130);
        SpentPasses zero = deskOf("S1u00000002s0");
        zero.hear();
        due("0", zero.thief(0), 0);
        zero.send(0);
        due("nothing left", zero.thief(0), NONE);
        due("user 2", x.thief(2), UNKNOWN);
        due("user -1", x.thief(-1), UNKNOWN);
    }

    private static void heard() {
        promise = 19;
        SpentPasses x = deskOf("S1" + SQUARES + SQUARES + SQUARES + SQUARES + "s3");
        x.hear();
        x.attempt(0, 0);
        x.hear();
        due("the first", x.heard(0), 3025);
        due("the second", x.heard(1), 0);
        for (int i : new int[] {2, 8, -1, MIN, MAX}) {
            due("i " + i, x.heard(i), NONE);
        }
        x.undo();
        due("undone", x.heard(1), NONE);
        for (int i = 1; i < 8; i++) {
            x.hear();
        }
        due("the last", x.heard(7), 0);
        due("no more", x.heard(8), NONE);
    }

    private static void judge() {
        promise = 20;
        SpentPasses x = deskOf("S2" + SQUARES + ROUND);
        int[] so = {1000, 1100, 2000, 2100, 3005, 3106, 4005, 4106, 5025, 5226, 5005, 5091, 6001, 6101, 7100, 7600};
        for (int doing : so) {
            due("doing " + doing, x.judge(1, doing), NONE);
            due("second " + doing, x.judge(2, 73000000L + doing), NONE);
        }
        int[] notSo = {0, 1, 1200, 1001, 1010, 1900, 2200, 2001, 2010, 3004, 3205, 3200, 3099, 4006, 4205, 4200, 5016,
            5000, 5276, 5999, 6000, 6100, 6002, 6011, 6010, 6201, 6200, 7000, 7700, 7301, 7310, 8000, 9000, 9999};
        for (int doing : notSo) {
            due("doing " + doing, x.judge(1, doing), 0);
            due("fourth " + doing, x.judge(4, 710071007200L * 10000L + doing), 3);
        }
        due("sent, and one less", x.judge(3, 100030044004L), NONE);
        due("sent, and no less", x.judge(3, 100030044005L), 2);
        due("missed, then taken by 2", x.judge(3, 200010004003L), NONE);
        due("missed twice, then not taken", x.judge(4, 2000200010004005L), NONE);
        due("missed twice, then sent: OWN", x.judge(4, 2000200010003002L), NONE);
        due("out of step", x.judge(3, 200020006000L), NONE);
        due("out of step, told by a wrong figure", x.judge(3, 200020006002L), 2);
        due("widened", x.judge(4, 2000200073006001L), NONE);
        due("fits then", x.judge(2, 73005016L), NONE);
        due("the first of two", x.judge(4, 1000300430053005L), 2);
        due("a figure short", x.judge(2, 7300), 0);
        SpentPasses one = deskOf("S1u00000001");
        due("sent once", one.judge(1, 1000), NONE);
        due("0 fits", one.judge(1, 5000), NONE);
        due("251 is no number, though 0 fits", one.judge(1, 5251), 0);
        due("sent twice", one.judge(2, 10001000), 1);
        due("missed twice", one.judge(2, 20002000), 1);
        due("spent", one.judge(4, 1000300040006000L), NONE);
        due("none fits", one.judge(2, 10005000), 1);
        due("nobody", new SpentPasses().judge(1, 5000), 0);
        due("n 0", x.judge(0, 0), OUTSIDE);
        due("n 5", x.judge(5, 0), OUTSIDE);
        due("n MIN", x.judge(MIN, 0), OUTSIDE);
        due("n MAX", x.judge(MAX, 0), OUTSIDE);
        due("row -1", x.judge(1, -1), OUTSIDE);
        due("row MIN", x.judge(4, Long.MIN_VALUE), OUTSIDE);
        due("row MAX", x.judge(4, Long.MAX_VALUE), OUTSIDE);
        long most = 1;
        for (int n = 1; n <= 4; n++) {
            most *= 10000;
            due("figures for " + n, x.judge(n, most - 1), 0);
            due("a figure more than " + n, x.judge(n, most), OUTSIDE);
        }
        stands("nothing changes", x, 0, 5, 123, 5, NONE, 0);
        due("window", x.count(2), 2);
    }

    private static void see() {
        promise = 21;
        SpentPasses x = new SpentPasses();
        due("of nobody yet", x.see(3, 29, 250), 1);
        due("the least", x.see(0, 0, 0), 2);
        for (int bad : new int[] {-1, 4, MIN, MAX}) {
            due("user " + bad, x.see(bad, 0, 0), UNKNOWN);
        }
        due("UNKNOWN ahead of OUTSIDE", x.see(4, 30, 251), UNKNOWN);
        for (int bad : new int[] {-1, 30, MIN, MAX}) {
            due("i " + bad, x.see(0, bad, 0), OUTSIDE);
        }
        for (int bad : new int[] {-1, 251, MIN, MAX}) {
            due("v " + bad, x.see(0, 0, bad), OUTSIDE);
        }
        due("how many", x.count(6), 2);
        for (int size = 3; size <= 6; size++) {
            due("see", x.see(1, 1, 1), size);
        }
        due("the seventh", x.see(0, 0, 0), FULL);
        due("OUTSIDE ahead of FULL", x.see(0, 30, 0), OUTSIDE);
        due("UNKNOWN ahead of FULL", x.see(-1, 0, 0), UNKNOWN);
        due("how many", x.count(6), 6);
        due("no act", x.count(5), 0);
    }

    private static void unsee() {
        promise = 22;
        SpentPasses x = deskOf("S1" + SQUARES);
        due("nothing", x.unsee(), 0);
        x.see(0, 0, 2);
        x.see(0, 0, 3);
        due("no seed", x.which(0), 0);
        due("unsee", x.unsee(), 2);
        due("all", x.which(0), 251);
        due("nothing", x.unsee(), 0);
        due("how many", x.count(6), 0);
    }

    private static void which() {
        promise = 23;
        SpentPasses x = deskOf("S1" + SQUARES + ROUND);
        due("all", x.which(0), 251);
        due("the least of all", x.which(1), 0);
        x.see(0, 5, 123);
        due("two", x.which(0), 2);
        due("the less", x.which(1), 2);
        x.see(3, 0, 7);
        due("of nobody", x.which(0), 2);
        x.see(0, 0, 249);
        due("one", x.which(0), 1);
        due("it", x.which(1), 249);
        x.see(1, 1, 7);
        due("by another salt, one for all", x.which(0), 1);
        x.see(1, 2, 0);
        due("none", x.which(0), 0);
        due("none", x.which(1), NONE);
        for (int what : new int[] {-1, 2, MIN, MAX}) {
            due("what " + what, x.which(what), OUTSIDE);
        }
        x.unsee();
        x.see(0, 1, 17);
        due("no root", x.which(0), 2);
        x.renew(0, 0, 8, 1);
        due("the salt as it is: 3 and 248", x.which(1), 3);
        x.undo();
        spell(x, "S1");
        x.desk();
        due("of nobody any more", x.which(0), 251);
        spell(x, "S1u00001301");
        x.desk();
        due("of another: 2 and 249", x.which(1), 2);
        due("and 29 steps, whatever N is", x.see(0, 29, x.behind(2, 13, 29)), 2);
        due("still", x.which(1), 2);
    }

    private static void fraction(String what, int above, int below, int wantAbove, int wantBelow) {
        due(what + ", above", above, wantAbove);
        due(what + ", below", below, wantBelow);
    }

    private static void shareOf(String text, int user, int above, int below) {
        SpentPasses x = deskOf(text);
        fraction("share of " + user + " in " + text, x.share(user, true), x.share(user, false), above, below);
    }

    private static void share() {
        promise = 24;
        shareOf("S1" + SQUARES, 0, 2, 1);
        shareOf("S1" + SQUARES + SQUARES, 1, 1, 1);
        shareOf("S1" + SQUARES + SQUARES + SQUARES, 2, 2, 3);
        shareOf("S1" + SQUARES + SQUARES + SQUARES + SQUARES, 3, 1, 2);
        shareOf("S1" + SQUARES + SQUARES + ROUND, 0, 1, 1);
        shareOf("S1" + SQUARES + SQUARES + ROUND, 2, 2, 1);
        shareOf("S1u00000001u00000001", 0, 1, 2);
        shareOf("S1u00000001u00000001s0", 0, 0, 1);
        shareOf("S1u00000001u00000001s0", 1, 1, 1);
        // 25 and 226 fit all three, 5, 246, 16 and 235 but the two that have more than 1 left.
        shareOf("S3" + SQUARES + SQUARES + "u02500001", 0, 8, 3);
        shareOf("S3" + SQUARES + SQUARES + "u02500001", 2, 2, 3);
        SpentPasses x = deskOf("S1" + SQUARES);
        due("user 1", x.share(1, true), UNKNOWN);
        due("user 1", x.share(1, false), UNKNOWN);
        due("user -1", x.share(-1, true), UNKNOWN);
    }

    private static void guess() {
        promise = 25;
        SpentPasses x = deskOf("S1" + SQUARES + "u00000001s1");
        fraction("none", x.guess(0, 0, true), x.guess(0, 0, false), 0, 1);
        fraction("one", x.guess(0, 1, true), x.guess(0, 1, false), 2, 251);
        fraction("two", x.guess(0, 2, true), x.guess(0, 2, false), 1000, 63001);
        fraction("three", x.guess(0, 3, true), x.guess(0, 3, false), 375002, 15813251);
        fraction("nothing fits", x.guess(1, 3, true), x.guess(1, 3, false), 0, 1);
        for (int n : new int[] {-1, 4, MIN, MAX}) {
            fraction("n " + n, x.guess(0, n, true), x.guess(0, n, false), OUTSIDE, OUTSIDE);
        }
        due("UNKNOWN ahead of OUTSIDE", x.guess(2, 4, true), UNKNOWN);
        due("user -1", x.guess(-1, 0, false), UNKNOWN);
    }

    private static void lossOf(SpentPasses x, int r, int tenths, int above, int below) {
        fraction("loss of " + r + " by " + tenths, x.loss(0, r, tenths, true), x.loss(0, r, tenths, false), above, below);
    }

    private static void loss() {
        promise = 26;
        SpentPasses x = deskOf("S1" + SQUARES + "u00100330");
        lossOf(x, 0, 5, 1, 1);
        lossOf(x, 1, 3, 7, 10);
        lossOf(x, 1, 10, 0, 1);
        lossOf(x, 1, 0, 1, 1);
        lossOf(x, 2, 5, 1, 4);
        lossOf(x, 4, 1, 6561, 10000);
        lossOf(x, 5, 0, 0, 1);
        lossOf(x, 6, 0, STATE, STATE);
        for (int bad : new int[] {-1, 7, MIN, MAX}) {
            lossOf(x, bad, 0, OUTSIDE, OUTSIDE);
        }
        for (int bad : new int[] {-1, 11, MIN, MAX}) {
            lossOf(x, 0, bad, OUTSIDE, OUTSIDE);
            lossOf(x, 6, bad, OUTSIDE, OUTSIDE);
        }
        due("six, all lost: round again", x.loss(1, 6, 10, true), 1);
        // All six sent, or the first one missed: then the row has gone round just when the six are spent.
        due("six of thirty by a tenth", x.loss(1, 6, 1, true), 531441 + 100000);
        due("six of thirty by a tenth", x.loss(1, 6, 1, false), 1000000);
        due("user 2", x.loss(2, 0, 0, true), UNKNOWN);
        due("UNKNOWN ahead of OUTSIDE", x.loss(-1, 7, 11, true), UNKNOWN);
        SpentPasses wide = deskOf("S2" + SQUARES);
        lossOf(wide, 2, 5, 3, 4);
        lossOf(wide, 2, 1, 99, 100);
        lossOf(deskOf("S1" + SQUARES + "m0"), 0, 0, 0, 1);
        stands("nothing changes", x, 0, 5, 123, 5, NONE, 0);
    }

    private static void seed() {
        promise = 27;
        SpentPasses x = new SpentPasses();
        due("at first", x.seed(Long.MIN_VALUE), 0);
        due("what it was", x.seed(Long.MAX_VALUE), Long.MIN_VALUE);
        due("what it was", x.seed(-1), Long.MAX_VALUE);
        due("what it was", x.seed(0), -1);
        due("no act", x.count(5), 0);
    }

    private static void drawn() {
        promise = 28;
        // By 0: nobody; 0 sends; 1 misses; 0 sends; 1 sends (too late, by a window of 1); nobody; 0 sends.
        SpentPasses x = deskOf("S1" + SQUARES + ROUND);
        due("a day", x.drawn(1), 0);
        due("the seed of days", x.seed(0), 1442695040888963407L);
        due("two days", x.drawn(2), 1);
        due("the seed of days", x.seed(0), 1876011003808476466L);
        due("three days", x.drawn(3), 1);
        x.seed(0);
        due("four days", x.drawn(4), 2);
        x.seed(0);
        due("seven days", x.drawn(7), 3);
        due("the seed of days", x.seed(0), 1459328389850446429L);
        x.drawn(4);
        due("days go on, all else as it is now: 1, nobody, 0", x.drawn(3), 2);
        stands("nothing changes", x, 0, 5, 123, 5, NONE, 0);
        x.seed(0);
        SpentPasses wide = deskOf("S2" + SQUARES + ROUND);
        due("by a window of 2", wide.drawn(7), 4);
        SpentPasses one = deskOf("S1u00000001");
        due("no more than it has", one.drawn(60), 1);
        for (int m : new int[] {0, -1, 61, MIN, MAX}) {
            due("m " + m, x.drawn(m), OUTSIDE);
        }
        due("refused days are none", x.seed(0), 0);
        due("nobody", new SpentPasses().drawn(60), 0);
    }

    private static void keep() {
        promise = 29;
        SpentPasses x = new SpentPasses();
        due("nobody", x.keep(0), 0);
        for (int slot : new int[] {-1, 2, MIN, MAX}) {
            due("slot " + slot, x.keep(slot), UNKNOWN);
        }
        due("slot 1 is not kept", x.again(1), STATE);
        due("slot 0 is", x.again(0), 0);
        SpentPasses y = deskOf("S4" + SQUARES + ROUND + "s1");
        y.hear();
        due("two", y.keep(1), 2);
        due("no act, and none is forgotten", y.count(5), 1);
        y.send(0);
        due("kept anew", y.keep(1), 2);
        y.send(0);
        due("again", y.again(1), 2);
        due("as kept last", y.user(0, 3), 4);
        due("the other slot", y.again(0), STATE);
    }

    private static void again() {
        promise = 30;
        SpentPasses x = deskOf("S4" + SQUARES + ROUND + "s1");
        x.hear();
        x.keep(0);
        x.widen(1);
        x.attempt(0, 25);
        x.hear();
        x.renew(1, 9, 9, 9);
        x.keep(1);
        x.see(0, 0, 0);
        x.seed(9);
        for (int slot : new int[] {-1, 2, MIN, MAX}) {
            due("slot " + slot, x.again(slot), UNKNOWN);
        }
        due("acts stay", x.count(5), 5);
        due("again", x.again(0), 2);
        stands("the first", x, 0, 5, 123, 5, 1091, 0);
        stands("the other", x, 1, 5, 91, 5, 1091, 0);
        due("window", x.count(2), 4);
        due("heard", x.count(4), 1);
        due("heard", x.heard(0), 1091);
        due("SEED", x.user(1, 0), 1);
        due("the row is empty", x.undo(), STATE);
        due("seen stays", x.count(6), 1);
        due("text stays", x.count(0), 22);
        due("the seed of days stays", x.seed(0), 9);
        x.send(0);
        due("a kept one stays", x.again(0), 2);
        due("as it was", x.user(0, 3), 5);
        due("the other slot", x.again(1), 2);
        stands("the other slot", x, 1, 9, x.behind(9, 9, 9), 9, 1222, 0);
        due("heard", x.heard(1), 25);
        SpentPasses y = deskOf("S1" + SQUARES);
        y.send(0);
        due("none were kept", y.again(0), STATE);
        due("acts stay", y.count(5), 1);
    }

    private static void count() {
        promise = 31;
        SpentPasses x = deskOf("S5" + SQUARES + ROUND + "s1");
        x.hear();
        x.hear();
        x.miss(0);
        x.see(0, 0, 0);
        int[] want = {22, 2, 5, 1091, 2, 3, 1};
        for (int what = 0; what <= 6; what++) {
            due("what " + what, x.count(what), want[what]);
        }
        for (int what : new int[] {-1, 7, MIN, MAX}) {
            due("what " + what, x.count(what), OUTSIDE);
        }
        due("0 of user 0 on the wire", deskOf("S1u00000001s0").count(3), 0);
    }
}
