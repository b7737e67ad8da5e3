/** "Terms", its sentences one by one: what is too small, too large, empty, full, goes round, or is refused. */
public final class TermsEdgesTest {
    private static final int UNKNOWN = Sentences.UNKNOWN, OUTSIDE = Sentences.OUTSIDE, STATE = Sentences.STATE,
        FULL = Sentences.FULL, NONE = Sentences.NONE, MIN = Sentences.MIN, MAX = Sentences.MAX;
    private static final String SQUARES = Sentences.SQUARES, LONGER = Sentences.LONGER, ROUND = Sentences.ROUND,
        PAIRS = Sentences.PAIRS, NOUGHTS = Sentences.NOUGHTS;

    public static void main(String[] args) {
        Sentences.openPart("Terms");
        rowOfRefusals();
        kindsOfRefusals();
        fractionsAndPlaces();
        numbers();
        users();
        fits();
        sentMissedTried();
        wireAndHeard();
        anewAndWidened();
        inStepAndWarned();
        textOfDesk();
        faults();
        acts();
        fitting();
        gap();
        tailAndLoop();
        thief();
        judgedRow();
        judgedDoings();
        judgedInTurn();
        seen();
        which();
        share();
        guess();
        loss();
        drawn();
        slots();
        morePlainly();
        Sentences.end();
    }

    private static void says(String promises, String words, Runnable body) {
        Sentences.says(promises, words, body);
    }

    private static void due(String call, long got, long want) {
        Sentences.due(call, got, want);
    }

    private static SpentPasses deskOf(String text) {
        return Sentences.deskOf(text);
    }

    private static void dueFault(String text, int want) {
        due("fault of " + text, Sentences.faultOf(text), want);
    }

    /** OWN, LAST, LEFT of a user. */
    private static void dueRow(String when, SpentPasses x, int user, int own, int last, int left) {
        due(when + ": OWN", x.user(user, 3), own);
        due(when + ": LAST", x.user(user, 4), last);
        due(when + ": LEFT", x.user(user, 5), left);
    }

    // ---- ahead of part 1

    private static void rowOfRefusals() {
        String words = "REFUSALS, of several the first that a call names (in just that row):";
        says("6, 11, 13, 16, 17, 21, 25, 26", words, () -> {
            SpentPasses x = deskOf("S1" + SQUARES);
            due("user: UNKNOWN, OUTSIDE", x.user(1, 11), UNKNOWN);
            due("attempt: UNKNOWN, OUTSIDE", x.attempt(1, 251), UNKNOWN);
            due("renew: UNKNOWN, OUTSIDE", x.renew(1, 251, 251, 31), UNKNOWN);
            due("fits: UNKNOWN, OUTSIDE", x.fits(1, 251), UNKNOWN);
            due("fitting: UNKNOWN, OUTSIDE", x.fitting(1, 2), UNKNOWN);
            due("see: UNKNOWN, OUTSIDE", x.see(4, 30, 251), UNKNOWN);
            due("guess: UNKNOWN, OUTSIDE", x.guess(1, 4, true), UNKNOWN);
            due("loss: UNKNOWN, OUTSIDE", x.loss(1, 7, 11, true), UNKNOWN);
        });
        says("13, 26, 30", words, () -> {
            SpentPasses x = Sentences.spent();
            due("renew: UNKNOWN, STATE", x.renew(1, 0, 0, 1), UNKNOWN);
            due("loss: UNKNOWN, STATE", x.loss(1, 1, 0, true), UNKNOWN);
            due("again: UNKNOWN, STATE", x.again(2), UNKNOWN);
            due("renew: OUTSIDE, STATE", x.renew(0, 0, 0, 0), OUTSIDE);
            due("loss: OUTSIDE, STATE, by r", x.loss(0, 7, 0, true), OUTSIDE);
            due("loss: OUTSIDE, STATE, by x", x.loss(0, 1, 11, true), OUTSIDE);
        });
        says("2, 21", words, () -> {
            SpentPasses x = Sentences.full();
            due("write: OUTSIDE, FULL", x.write(256), OUTSIDE);
            due("see: OUTSIDE, FULL", x.see(0, 30, 0), OUTSIDE);
            due("see: UNKNOWN, FULL", x.see(4, 0, 0), UNKNOWN);
            due("see: UNKNOWN, OUTSIDE, FULL", x.see(4, 30, 0), UNKNOWN);
        });
    }

    private static void kindsOfRefusals() {
        says("6, 7, 9 to 11, 13, 16 to 18, 24 to 26", "UNKNOWN (there is no such USER", () -> {
            String text = "S1";
            for (int users = 0; users <= 4; users++) {
                for (int user : new int[] {-1, users, 4, MIN, MAX}) {
                    dueUnknown(deskOf(text), user);
                }
                text += "u00000001";
            }
        });
        says("29, 30", ", slot),", () -> {
            SpentPasses x = Sentences.busy();
            for (int slot : new int[] {-1, 2, MIN, MAX}) {
                due("keep " + slot, x.keep(slot), UNKNOWN);
                due("again " + slot, x.again(slot), UNKNOWN);
            }
        });
        says("2, 6, 8, 11, 13, 14, 16, 17, 20, 21, 23, 25, 26, 28, 31", "OUTSIDE (another number is not as told)",
            TermsEdgesTest::dueOutside);
        says("5, 9, 10, 12, 13, 15, 26, 30", "STATE (as told)", () -> {
            SpentPasses x = new SpentPasses();
            due("desk", x.desk(), STATE);
            due("hear", x.hear(), STATE);
            due("undo", x.undo(), STATE);
            due("again", x.again(0), STATE);
            SpentPasses spent = Sentences.spent();
            due("send", spent.send(0), STATE);
            due("miss", spent.miss(0), STATE);
            due("renew", spent.renew(0, 0, 0, 1), STATE);
            due("loss", spent.loss(0, 1, 0, true), STATE);
        });
        says("2, 12, 21", "FULL (as told).", () -> {
            SpentPasses x = Sentences.full();
            due("write", x.write('s'), FULL);
            due("hear", x.hear(), FULL);
            due("see", x.see(0, 1, 4), FULL);
        });
        says("2 to 31", "What is refused changes nothing.", TermsEdgesTest::dueNothingByRefused);
        says("31", "NONE is -9.", () -> due("the wire at first", new SpentPasses().count(3), -9));
    }

    private static void dueUnknown(SpentPasses x, int user) {
        String of = " " + user + " of " + x.count(1);
        due("user" + of, x.user(user, 0), UNKNOWN);
        due("pass" + of, x.pass(user, 0), UNKNOWN);
        due("send" + of, x.send(user), UNKNOWN);
        due("miss" + of, x.miss(user), UNKNOWN);
        due("attempt" + of, x.attempt(user, 0), UNKNOWN);
        due("renew" + of, x.renew(user, 0, 0, 1), UNKNOWN);
        due("fits" + of, x.fits(user, 0), UNKNOWN);
        due("fitting" + of, x.fitting(user, 0), UNKNOWN);
        due("thief" + of, x.thief(user), UNKNOWN);
        due("share" + of, x.share(user, true), UNKNOWN);
        due("guess" + of, x.guess(user, 0, true), UNKNOWN);
        due("loss" + of, x.loss(user, 0, 0, true), UNKNOWN);
    }

    private static void dueOutside() {
        SpentPasses x = deskOf("S1" + SQUARES);
        due("write", x.write(256), OUTSIDE);
        due("user", x.user(0, 11), OUTSIDE);
        due("behind", x.behind(0, 0, 100), OUTSIDE);
        due("attempt", x.attempt(0, 251), OUTSIDE);
        due("renew", x.renew(0, 0, 0, 31), OUTSIDE);
        due("widen", x.widen(7), OUTSIDE);
        due("fits", x.fits(0, 251), OUTSIDE);
        due("fitting", x.fitting(0, 2), OUTSIDE);
        due("judge", x.judge(5, 0), OUTSIDE);
        due("see", x.see(0, 30, 0), OUTSIDE);
        due("which", x.which(2), OUTSIDE);
        due("guess", x.guess(0, 4, true), OUTSIDE);
        due("loss", x.loss(0, 0, 11, true), OUTSIDE);
        due("drawn", x.drawn(61), OUTSIDE);
        due("count", x.count(7), OUTSIDE);
    }

    private static void dueNothingByRefused() {
        Sentences.refused("desk", () -> {
            SpentPasses x = Sentences.busy();
            x.write('x');
            return x;
        }, SpentPasses::desk, STATE);
        Sentences.refused("send", Sentences::busy, x -> x.send(2), UNKNOWN);
        Sentences.refused("send", Sentences::spent, x -> x.send(0), STATE);
        Sentences.refused("miss", Sentences::busy, x -> x.miss(2), UNKNOWN);
        Sentences.refused("miss", Sentences::spent, x -> x.miss(0), STATE);
        Sentences.refused("attempt", Sentences::busy, x -> x.attempt(2, 25), UNKNOWN);
        Sentences.refused("attempt", Sentences::busy, x -> x.attempt(0, 251), OUTSIDE);
        Sentences.refused("hear", SpentPasses::new, SpentPasses::hear, STATE);
        Sentences.refused("hear", Sentences::full, SpentPasses::hear, FULL);
        Sentences.refused("renew", Sentences::busy, x -> x.renew(2, 3, 4, 5), UNKNOWN);
        Sentences.refused("renew", Sentences::busy, x -> x.renew(0, 3, 4, 31), OUTSIDE);
        Sentences.refused("renew", Sentences::spent, x -> x.renew(0, 3, 4, 5), STATE);
        Sentences.refused("widen", Sentences::busy, x -> x.widen(7), OUTSIDE);
        Sentences.refused("undo", SpentPasses::new, SpentPasses::undo, STATE);
        Sentences.refused("write", Sentences::busy, x -> x.write(256), OUTSIDE);
        Sentences.refused("write", Sentences::full, x -> x.write('s'), FULL);
        Sentences.refused("see", Sentences::busy, x -> x.see(4, 0, 0), UNKNOWN);
        Sentences.refused("see", Sentences::busy, x -> x.see(0, 30, 0), OUTSIDE);
        Sentences.refused("see", Sentences::full, x -> x.see(0, 1, 4), FULL);
        Sentences.refused("judge", Sentences::busy, x -> x.judge(1, 71007200L), OUTSIDE);
        Sentences.refused("loss", Sentences::busy, x -> x.loss(0, 4, 5, true), STATE);
        Sentences.refused("drawn", Sentences::busy, x -> x.drawn(61), OUTSIDE);
        Sentences.refused("keep", Sentences::busy, x -> x.keep(2), UNKNOWN);
        Sentences.refused("again", Sentences::busy, x -> x.again(2), UNKNOWN);
        Sentences.refused("again", Sentences::full, x -> x.again(0), STATE);
    }

    private static void fractionsAndPlaces() {
        says("24 to 26", "FRACTIONS are told above (upper = true;", () -> {
            SpentPasses x = deskOf("S1" + SQUARES + SQUARES + SQUARES);
            due("share, above", x.share(0, true), 2);
            due("guess, above", x.guess(0, 1, true), 2);
            due("loss, above", x.loss(0, 1, 3, true), 7);
        });
        // No SHARE, GUESS or LOSS can be less than 0.
        Sentences.saysNothing("less than 0, if they are),");
        says("24 to 26", "below,", () -> {
            SpentPasses x = deskOf("S1" + SQUARES + SQUARES + SQUARES);
            due("share, below", x.share(0, false), 3);
            due("guess, below", x.guess(0, 1, false), 251);
            due("loss, below", x.loss(0, 1, 3, false), 10);
        });
        says("24, 26", "in least terms", () -> {
            SpentPasses x = deskOf("S1" + SQUARES + SQUARES);
            due("share, 1 of 2 halves: above", x.share(0, true), 1);
            due("share, 1 of 2 halves: below", x.share(0, false), 1);
            due("loss, 25 of 100: above", x.loss(0, 2, 5, true), 1);
            due("loss, 25 of 100: below", x.loss(0, 2, 5, false), 4);
        });
        says("24 to 26", "(0 is 0 above, 1 below);", () -> {
            SpentPasses x = deskOf("S1u00000001s0");
            due("share, above", x.share(0, true), 0);
            due("share, below", x.share(0, false), 1);
            due("guess, above", x.guess(0, 3, true), 0);
            due("guess, below", x.guess(0, 3, false), 1);
            due("loss, above", deskOf("S1" + SQUARES).loss(0, 5, 5, true), 0);
            due("loss, below", deskOf("S1" + SQUARES).loss(0, 5, 5, false), 1);
        });
        says("24 to 26", "refusals of them are told likewise.", () -> {
            SpentPasses x = deskOf("S1" + SQUARES);
            for (boolean upper : new boolean[] {true, false}) {
                due("share", x.share(1, upper), UNKNOWN);
                due("guess", x.guess(1, 0, upper), UNKNOWN);
                due("guess", x.guess(0, 4, upper), OUTSIDE);
                due("loss", x.loss(1, 0, 0, upper), UNKNOWN);
                due("loss", x.loss(0, 7, 0, upper), OUTSIDE);
                due("loss", x.loss(0, 6, 0, upper), STATE);
            }
        });
        says("4, 20", "Places of letters and of doings (FAULT, JUDGED) are counted from 0 on.", () -> {
            dueFault("x", 0);
            dueFault("Sx", 1);
            due("the first doing", new SpentPasses().judge(4, 0), 0);
            due("the fourth doing", new SpentPasses().judge(4, 7100720073000000L), 3);
        });
        // There is no call that tells a set.
        Sentences.saysNothing("Sets are told as bits.");
    }

    // ---- part 1

    private static void numbers() {
        says("8, 11, 13, 16, 21", "NUMBERS are 0 to 250.", () -> {
            for (int v : new int[] {0, 250}) {
                SpentPasses x = deskOf("S1u00000030");
                due("behind " + v, x.behind(v, v, 0), v);
                due("attempt " + v, x.attempt(0, v), v == 0 ? 1 : 0);
                due("fits " + v, x.fits(0, v), v == 0 ? 1 : 0);
                due("see " + v, x.see(0, 0, v), 1);
                due("renew " + v, x.renew(0, v, v, 1), 1);
            }
            for (int v : new int[] {-1, 251, MIN, MAX}) {
                SpentPasses x = deskOf("S1u00000030");
                due("behind " + v, x.behind(v, 0, 0), OUTSIDE);
                due("behind by " + v, x.behind(0, v, 0), OUTSIDE);
                due("attempt " + v, x.attempt(0, v), OUTSIDE);
                due("fits " + v, x.fits(0, v), OUTSIDE);
                due("see " + v, x.see(0, 0, v), OUTSIDE);
                due("renew " + v, x.renew(0, v, 0, 1), OUTSIDE);
                due("renew by " + v, x.renew(0, 0, v, 1), OUTSIDE);
            }
        });
        String rule = "BEHIND a NUMBER v by a SALT (a NUMBER) comes what is left of (v times v, and SALT, together) by 251;";
        says("8", rule, () -> {
            SpentPasses x = new SpentPasses();
            due("225 and 25: not round yet", x.behind(15, 25, 1), 250);
            due("225 and 26: just round", x.behind(15, 26, 1), 0);
            due("225 and 27: round", x.behind(15, 27, 1), 1);
            due("256: round by the square alone", x.behind(16, 0, 1), 5);
            due("0 and 0", x.behind(0, 0, 1), 0);
            due("0 and 250", x.behind(0, 250, 1), 250);
            due("62500", x.behind(250, 0, 1), 1);
            due("62500 and 250", x.behind(250, 250, 1), 0);
        });
        says("8", "k BEHIND it: so k times", () -> {
            SpentPasses x = new SpentPasses();
            int[] row = {2, 4, 16, 5, 25, 123};
            for (int k = 0; k < row.length; k++) {
                due(k + " behind 2", x.behind(2, 0, k), row[k]);
            }
            due("once round", x.behind(4, 0, 20), 4);
            due("99 times", x.behind(4, 0, 99), 249);
        });
        says("8", "(0 BEHIND it: v itself).", () -> {
            SpentPasses x = new SpentPasses();
            for (int v : new int[] {0, 1, 16, 250}) {
                due("0 behind " + v, x.behind(v, 250, 0), v);
            }
        });
    }

    private static void users() {
        says("5, 31", "USERS are 0, 1, .. (never more than 4;", () -> {
            String four = "S1u00100001u00200001u00300001u00400001";
            SpentPasses x = deskOf(four);
            due("four", x.count(1), 4);
            for (int user = 0; user < 4; user++) {
                due("SEED of " + user, x.user(user, 0), user + 1);
            }
            due("a fifth", x.user(4, 0), UNKNOWN);
            dueFault(four + "u00500001", four.length());
        });
        says("1, 31", "none at first),", () -> {
            due("USERS", new SpentPasses().count(1), 0);
            due("USER 0", new SpentPasses().user(0, 0), UNKNOWN);
        });
        says("4, 13", "each with a SEED, a SALT (NUMBERS),", () -> {
            dueFault("S1u00000001", NONE);
            dueFault("S1u25025001", NONE);
            dueFault("S1u251", 5);
            dueFault("S1u000251", 8);
            due("SEED", deskOf("S1u25000001").user(0, 0), 250);
            due("SALT", deskOf("S1u00025001").user(0, 1), 250);
        });
        says("4, 13", "a row of N passes (N 1 to 30):", () -> {
            due("N", deskOf("S1u00000001").user(0, 2), 1);
            due("N", deskOf("S1u00000030").user(0, 2), 30);
            dueFault("S1u00000000", 10);
            dueFault("S1u00000031", 10);
            SpentPasses x = deskOf("S1u00000030");
            due("renew to 0", x.renew(0, 0, 0, 0), OUTSIDE);
            due("renew to 31", x.renew(0, 0, 0, 31), OUTSIDE);
            due("renew to 1", x.renew(0, 0, 0, 1), 1);
            due("renew to 30", x.renew(0, 0, 0, 30), 1);
        });
        says("7", "pass i (0 to N less 1) is the NUMBER i BEHIND SEED.", () -> {
            SpentPasses x = deskOf("S1" + SQUARES + "u00200030u25000001");
            due("pass 0", x.pass(0, 0), 2);
            due("pass N less 1", x.pass(0, 4), 25);
            due("pass N", x.pass(0, 5), NONE);
            due("pass 29 of 30, round", x.pass(1, 29), 80);
            due("pass 30 of 30", x.pass(1, 30), NONE);
            due("the one pass", x.pass(2, 0), 250);
            due("pass 1 of one", x.pass(2, 1), NONE);
        });
        says("6", "A USER has OWN (N at first): how many passes it has left;", () -> {
            due("of 30", deskOf("S1u00200030").user(0, 3), 30);
            SpentPasses x = deskOf("S1u00000001");
            due("of 1", x.user(0, 3), 1);
            x.miss(0);
            due("of none", x.user(0, 3), 0);
        });
        says("6", "THE DESK has of it LAST (N BEHIND SEED at first)", () -> {
            due("1 behind", deskOf("S1u00200001").user(0, 4), 4);
            due("5 behind", deskOf("S1" + SQUARES).user(0, 4), 123);
            due("30 behind", deskOf("S1u00200030").user(0, 4), 125);
        });
        says("6", "and LEFT (N at first).", () -> {
            due("of 1", deskOf("S1u00200001").user(0, 5), 1);
            due("of 30", deskOf("S1u00200030").user(0, 5), 30);
        });
        says("4, 14", "WINDOW is 1 to 6", () -> {
            SpentPasses x = new SpentPasses();
            due("widen to 0", x.widen(0), OUTSIDE);
            due("widen to 7", x.widen(7), OUTSIDE);
            due("widen to 6", x.widen(6), 1);
            due("widen to 1", x.widen(1), 6);
            dueFault("S0", 1);
            dueFault("S1", NONE);
            dueFault("S6", NONE);
            dueFault("S7", 1);
        });
        says("1, 31", "(1 at first).", () -> due("WINDOW", new SpentPasses().count(2), 1));
    }

    private static void fits() {
        says("16", "A NUMBER v FITS a USER by k, if k is the least of 1", () -> {
            SpentPasses x = deskOf("S6" + LONGER);
            due("LAST itself is 0 ahead, which is less than 1", x.fits(0, 123), 0);
            due("1 ahead", x.fits(0, 25), 1);
            due("0 ahead and 6 ahead: 6", deskOf("S6" + ROUND).fits(0, 1), 6);
            due("1, 2, .. ahead: the least", deskOf("S6" + NOUGHTS).fits(0, 0), 1);
            due("1 and 3 ahead: the least", deskOf("S6" + PAIRS).fits(0, 250), 1);
            due("2 and 4 ahead: the least", deskOf("S6" + PAIRS).fits(0, 0), 2);
        });
        says("16", "to WINDOW", () -> {
            int[] ahead = {123, 25, 5, 16, 4, 249, 91};
            for (int window = 1; window <= 6; window++) {
                SpentPasses x = deskOf("S" + window + LONGER);
                for (int k = 1; k <= 6; k++) {
                    due(k + " ahead by a window of " + window, x.fits(0, ahead[k]), k <= window ? k : 0);
                }
            }
        });
        says("16", "and to LEFT", () -> {
            SpentPasses x = deskOf("S6" + LONGER + "s0s0s0");
            due("3 are left", x.user(0, 5), 3);
            due("3 ahead", x.fits(0, 91), 3);
            due("4 ahead, by 51", x.fits(0, 51), 0);
            due("none is left", deskOf("S6u00000001s0").fits(0, 0), 0);
        });
        says("16", "such that LAST is k BEHIND v by its SALT.", () -> {
            SpentPasses x = deskOf("S1u00000101u00000201u25000001");
            due("0 by a salt of 1", x.fits(0, 0), 1);
            due("0 by a salt of 2", x.fits(1, 0), 1);
            due("1 by a salt of 2 is 3, not 2", x.fits(1, 1), 0);
            due("250 by a salt of 0", x.fits(2, 250), 1);
            due("1 by a salt of 0, though nobody told it", x.fits(2, 1), 1);
        });
        says("9, 11", "TAKEN: LAST is v, LEFT is k less.", () -> {
            SpentPasses x = deskOf("S6" + LONGER);
            due("3 ahead", x.attempt(0, 235), 3);
            dueRow("taken by 3", x, 0, 6, 235, 3);
            SpentPasses last = deskOf("S6" + LONGER);
            due("6 ahead", last.attempt(0, 91), 6);
            dueRow("taken by all that were left", last, 0, 6, 91, 0);
        });
        says("9, 11", "What does not FIT (or where LEFT is 0) is not TAKEN, and changes nothing at THE DESK.", () -> {
            SpentPasses x = deskOf("S5" + LONGER);
            due("tried 6 ahead by a window of 5", x.attempt(0, 91), 0);
            dueRow("not taken", x, 0, 6, 123, 6);
            SpentPasses lost = deskOf("S1" + SQUARES + "m0");
            due("sent 2 ahead by a window of 1", lost.send(0), 0);
            dueRow("not taken", lost, 0, 3, 123, 5);
            SpentPasses none = deskOf("S6u00000001s0");
            due("tried where LEFT is 0", none.attempt(0, 0), 0);
            dueRow("not taken", none, 0, 0, 0, 0);
        });
    }

    private static void sentMissedTried() {
        says("9", "SENT: a USER that has OWN above 0:", () -> {
            SpentPasses x = deskOf("S1u00000001");
            due("OWN is 1", x.send(0), 1);
            due("OWN is 0", x.send(0), STATE);
        });
        says("9", "OWN is 1 less; pass OWN (as it is then) comes to THE DESK:", () -> {
            SpentPasses x = deskOf("S1" + SQUARES);
            int[] row = {2, 4, 16, 5, 25};
            for (int own = 4; own >= 0; own--) {
                x.send(0);
                due("OWN", x.user(0, 3), own);
                due("the pass that came", x.count(3), row[own]);
            }
        });
        says("9", "it is TAKEN, if it FITS.", () -> {
            SpentPasses x = deskOf("S2" + SQUARES + SQUARES + "m0m1m1");
            due("2 ahead by a window of 2", x.send(0), 2);
            dueRow("taken", x, 0, 3, 5, 3);
            due("3 ahead by a window of 2", x.send(1), 0);
            dueRow("not taken", x, 1, 2, 123, 5);
        });
        says("10", "MISSED: likewise,", () -> {
            SpentPasses x = deskOf("S1u00000001");
            due("OWN is 1", x.miss(0), 0);
            due("OWN is 0", x.miss(0), STATE);
        });
        says("10", "but it does not come to THE DESK.", () -> {
            SpentPasses x = deskOf("S6" + SQUARES);
            x.miss(0);
            dueRow("missed", x, 0, 4, 123, 5);
            due("THE WIRE", x.count(3), NONE);
        });
        says("11", "TRIED: a NUMBER comes to THE DESK for a USER:", () -> {
            SpentPasses x = deskOf("S1" + SQUARES + SQUARES + "m0m0m0m0m0");
            due("for one with no pass of its own", x.attempt(0, 25), 1);
            dueRow("OWN stays", x, 0, 0, 25, 4);
            dueRow("the other stays", x, 1, 5, 123, 5);
            due("a number that is none", x.attempt(1, 251), OUTSIDE);
            due("a user that is none", x.attempt(2, 25), UNKNOWN);
        });
        says("11", "TRIED: a NUMBER comes to THE DESK for a USER: it is TAKEN, if it FITS.", () -> {
            SpentPasses x = deskOf("S2" + SQUARES);
            due("3 ahead by a window of 2", x.attempt(0, 16), 0);
            dueRow("not taken", x, 0, 5, 123, 5);
            due("2 ahead by a window of 2", x.attempt(0, 5), 2);
            dueRow("taken", x, 0, 5, 5, 3);
        });
    }

    private static void wireAndHeard() {
        says("9, 11, 31", "THE WIRE is the NUMBER that came to THE DESK last (SENT or TRIED, be it TAKEN or not;", () -> {
            SpentPasses x = deskOf("S1" + SQUARES);
            x.send(0);
            due("sent, taken", x.count(3), 25);
            x.attempt(0, 0);
            due("tried, not taken", x.count(3), 0);
            x.attempt(0, 5);
            due("tried, taken", x.count(3), 5);
            x.miss(0);
            x.send(0);
            due("sent, not taken", x.count(3), 16);
        });
        says("10, 31", "MISSED ones are not on it),", () -> {
            SpentPasses x = deskOf("S1" + SQUARES);
            x.miss(0);
            due("none came yet", x.count(3), NONE);
            x.attempt(0, 7);
            x.miss(0);
            due("the one that came last", x.count(3), 7);
        });
        says("31", "and of which USER", () -> {
            SpentPasses x = deskOf("S1" + NOUGHTS + NOUGHTS + NOUGHTS + NOUGHTS);
            for (int user = 3; user >= 0; user--) {
                x.send(user);
                due("user " + user, x.count(3), 1000 * user);
            }
            x.attempt(3, 250);
            due("the greatest", x.count(3), 3250);
        });
        says("1, 12, 31", "(NONE at first).", () -> {
            SpentPasses x = new SpentPasses();
            due("THE WIRE", x.count(3), NONE);
            due("hear", x.hear(), STATE);
            due("of a desk where nothing came", deskOf("S1" + SQUARES).count(3), NONE);
        });
        says("12, 19", "HEARD: what is on THE WIRE is kept as HEARD of that USER", () -> {
            SpentPasses x = deskOf("S1" + NOUGHTS + NOUGHTS);
            x.attempt(1, 250);
            due("hear", x.hear(), 250);
            due("heard of user 1", x.heard(0), 1250);
            x.attempt(0, 0);
            due("hear", x.hear(), 0);
            due("heard of user 0", x.heard(1), 0);
        });
        says("12, 31", "(never more than 8;", () -> {
            SpentPasses x = deskOf("S1" + SQUARES + "s0");
            for (int count = 1; count <= 8; count++) {
                due("hear", x.hear(), 25);
                due("HEARD", x.count(4), count);
            }
            due("a ninth", x.hear(), FULL);
            due("HEARD", x.count(4), 8);
        });
        says("1, 19, 31", "none at first; two may be alike).", () -> {
            SpentPasses x = deskOf("S1" + SQUARES + "s0");
            due("HEARD at first", x.count(4), 0);
            due("the first of none", x.heard(0), NONE);
            x.hear();
            x.hear();
            due("HEARD", x.count(4), 2);
            due("the first", x.heard(0), 25);
            due("the second, alike", x.heard(1), 25);
        });
    }

    private static void anewAndWidened() {
        says("13", "ANEW: a USER with OWN above 0 sends pass OWN less 1 with a new SEED, SALT and N:", () -> {
            SpentPasses x = deskOf("S1u00200001");
            due("OWN is 1: pass 0", x.renew(0, 3, 1, 1), 1);
            due("pass 0 came", x.count(3), 2);
            x.miss(0);
            due("OWN is 0", x.renew(0, 3, 1, 1), STATE);
        });
        says("13", "if that pass FITS, its row is anew as at first, by these;", () -> {
            SpentPasses x = deskOf("S2" + SQUARES + "m0");
            due("2 ahead by a window of 2", x.renew(0, 250, 250, 30), 2);
            int[] want = {250, 250, 30, 30, 250, 30};
            for (int what = 0; what < want.length; what++) {
                due("anew, what " + what, x.user(0, what), want[what]);
            }
            due("the new row's first that is sent", x.send(0), 1);
        });
        says("13", "else OWN is 1 less alone;", () -> {
            SpentPasses x = deskOf("S2" + SQUARES + "m0m0");
            due("3 ahead by a window of 2", x.renew(0, 250, 250, 30), 0);
            int[] want = {2, 0, 5, 2, 123, 5};
            for (int what = 0; what < want.length; what++) {
                due("not anew, what " + what, x.user(0, what), want[what]);
            }
        });
        says("13", "in both cases that pass is on THE WIRE.", () -> {
            SpentPasses x = deskOf("S1" + SQUARES + SQUARES + "m1");
            x.renew(0, 9, 9, 9);
            due("one that fitted", x.count(3), 25);
            x.renew(1, 9, 9, 9);
            due("one that did not", x.count(3), 1005);
        });
        says("14", "WIDENED: WINDOW is told.", () -> {
            SpentPasses x = new SpentPasses();
            for (int w : new int[] {6, 1, 1}) {
                x.widen(w);
                due("WINDOW", x.count(2), w);
            }
        });
    }

    private static void inStepAndWarned() {
        says("6", "A USER is IN STEP, if OWN is above 0", () -> {
            SpentPasses x = deskOf("S6u00000002m0");
            due("OWN is 1", x.user(0, 6), 1);
            x.miss(0);
            due("OWN is 0", x.user(0, 6), 0);
            due("though 2 are left at the desk", x.user(0, 5), 2);
        });
        says("6", "and its next pass (OWN less 1) FITS.", () -> {
            due("3 ahead by a window of 3", deskOf("S3" + SQUARES + "m0m0").user(0, 6), 1);
            due("3 ahead by a window of 2", deskOf("S2" + SQUARES + "m0m0").user(0, 6), 0);
            due("the next pass is pass 0", deskOf("S1" + SQUARES + "s0s0s0s0").user(0, 6), 1);
            SpentPasses x = deskOf("S6" + NOUGHTS);
            for (int i = 0; i < 3; i++) {
                x.attempt(0, 0);
            }
            due("none is left at the desk", x.user(0, 6), 0);
        });
        says("6", "It is WARNED, if LEFT is 3 or less.", () -> {
            SpentPasses x = deskOf("S1" + SQUARES);
            int[] want = {0, 0, 1, 1, 1, 1};
            for (int sent = 0; sent <= 5; sent++) {
                due(5 - sent + " are left", x.user(0, 7), want[sent]);
                x.send(0);
            }
            due("by LEFT, not by OWN", deskOf("S1" + SQUARES + "m0m0").user(0, 7), 0);
        });
    }

    private static void textOfDesk() {
        says("2, 31", "THE TEXT is letters (never more than 80).", () -> {
            SpentPasses x = new SpentPasses();
            due("letters at first", x.count(0), 0);
            for (int length = 1; length <= 80; length++) {
                due("letter " + length, x.write('s'), length);
            }
            due("letter 81", x.write('s'), FULL);
            due("letters", x.count(0), 80);
        });
        says("4", "A DESK is a TEXT: S,", () -> {
            dueFault("", 0);
            dueFault("s1", 0);
            dueFault("1", 0);
            dueFault("S1", NONE);
        });
        says("4, 5", "WINDOW (1 to 6), then", () -> {
            for (int window = 1; window <= 6; window++) {
                dueFault("S" + window, NONE);
                due("WINDOW", deskOf("S" + window).count(2), window);
            }
            for (String wrong : new String[] {"0", "7", "9", "/", ":", "u", "s", "S", "01"}) {
                dueFault("S" + wrong, 1);
            }
        });
        says("4, 5", "PARTS, none or more:", () -> {
            due("none", deskOf("S3").count(1), 0);
            due("one", deskOf("S3" + SQUARES).count(1), 1);
            String most = "S3u00000030u00000030" + "s0".repeat(29) + "m1";
            due("letters", most.length(), 80);
            due("thirty-two, and 80 letters", deskOf(most).user(0, 3), 1);
        });
        says("4, 5", "u, SEED, SALT (three figures each, 000 to 250),", () -> {
            for (String number : new String[] {"000", "009", "010", "099", "100", "199", "200", "209", "249", "250"}) {
                SpentPasses x = deskOf("S1u" + number + "00001u000" + number + "01");
                due("SEED", x.user(0, 0), Integer.parseInt(number));
                due("SALT", x.user(1, 1), Integer.parseInt(number));
            }
            String[] wrong = {"251", "259", "260", "299", "300", "999", "/00", ":00", "0/0", "0:0", "00/", "00:", "2:0", "25/"};
            int[] place = {2, 2, 1, 1, 0, 0, 0, 0, 1, 1, 2, 2, 1, 2};
            for (int i = 0; i < wrong.length; i++) {
                dueFault("S1u" + wrong[i] + "00001", 3 + place[i]);
                dueFault("S1u000" + wrong[i] + "01", 6 + place[i]);
            }
            dueFault("S1u1s0", 4);
            dueFault("S1u0001s0", 7);
        });
        says("4, 5", "N (two figures, 01 to 30),", () -> {
            for (String n : new String[] {"01", "09", "10", "19", "20", "29", "30"}) {
                due("N", deskOf("S1u000000" + n).user(0, 2), Integer.parseInt(n));
            }
            String[] wrong = {"00", "0/", "0:", "1/", "1:", "3/", "31", "39", "40", "99", "/1", ":1", "5"};
            int[] place = {1, 1, 1, 1, 1, 1, 1, 1, 0, 0, 0, 0, 0};
            for (int i = 0; i < wrong.length; i++) {
                dueFault("S1u000000" + wrong[i], 9 + place[i]);
            }
            dueFault("S1u0000001s0", 10);
        });
        says("4, 5", "but not where there are 4 USERS,", () -> {
            String three = "S1" + SQUARES + SQUARES + SQUARES;
            due("a fourth", deskOf(three + SQUARES).count(1), 4);
            dueFault(three + SQUARES + "u", 38);
            dueFault(three + SQUARES + SQUARES, 38);
        });
        says("4, 5", "or behind a PART of another kind;", () -> {
            dueFault("S1" + SQUARES + "s0u", 13);
            dueFault("S1" + SQUARES + "m0" + SQUARES, 13);
            dueFault("S1" + SQUARES + SQUARES, NONE);
        });
        says("4, 5", "s (SENT), m (MISSED), each with a USER (a figure) that has OWN above 0 then.", () -> {
            due("sent", deskOf("S1" + SQUARES + "s0").user(0, 5), 4);
            due("missed", deskOf("S1" + SQUARES + "m0").user(0, 5), 5);
            String two = "S1u00000001u00000002";
            dueFault(two + "s0", NONE);
            dueFault(two + "s1m1", NONE);
            dueFault(two + "s2", 21);
            dueFault(two + "m3", 21);
            dueFault(two + "s4", 21);
            dueFault(two + "s/", 21);
            dueFault(two + "s:", 21);
            dueFault(two + "s0s0", 23);
            dueFault(two + "m0s0", 23);
            dueFault(two + "s1s1m1", 25);
            dueFault(two + "s0s1m1", NONE);
            dueFault("S1" + NOUGHTS + NOUGHTS + NOUGHTS + NOUGHTS + "m3s3", NONE);
        });
        says("4", "(Without blanks.)", () -> {
            dueFault(" S1", 0);
            dueFault("S 1", 1);
            dueFault("S1 ", 2);
            dueFault("S1u 02", 3);
            dueFault("S1" + SQUARES + " s0", 11);
            dueFault("S1" + SQUARES + "s 0", 12);
        });
    }

    private static void faults() {
        String first = "FAULT: the place of the first letter by which THE TEXT can be no DESK, whatever came behind it";
        says("4", first, () -> {
            dueFault("x1u26", 0);
            dueFault("S1u26000001x", 4);
            dueFault("S1u260", 4);
            dueFault("S1u25", 5);
            dueFault("S1" + SQUARES + "x", 11);
            dueFault("S1" + SQUARES + (char) 0, 11);
            dueFault("S1" + SQUARES + (char) 255, 11);
            dueFault("S1" + SQUARES + "S1", 11);
            dueFault((char) ('S' + 128) + "1", 0);
            dueFault("S" + (char) ('1' + 128), 1);
            dueFault("S1" + (char) ('u' + 128), 2);
            dueFault("S1u00000001" + (char) ('s' + 128), 11);
            dueFault("S1u00000001s" + (char) ('0' + 128), 12);
        });
        says("4", "(its length set aside;", () -> {
            String full = "S1u00000030u00000030u00000030" + "s0".repeat(25) + "s";
            due("letters", full.length(), 80);
            dueFault(full, 80);
            dueFault(full.substring(0, 79), NONE);
        });
        says("4", "so an s where no USER has OWN above 0);", () -> {
            dueFault("S1s", 2);
            dueFault("S1s0", 2);
            dueFault("S1m0", 2);
            dueFault("S1u00000001s0s", 13);
            dueFault("S1u00000001m0m0", 13);
            dueFault("S1u00000001u00000001s0m1s", 24);
            dueFault("S1u00000001u00000001s0s", 23);
        });
        says("4", "its length, if it is only not at its end;", () -> {
            String whole = "S2u19925030s0";
            for (int length = 0; length < whole.length(); length++) {
                if (length != 2 && length != 11) {
                    dueFault(whole.substring(0, length), length);
                }
            }
        });
        says("4", "at its end; NONE: none.", () -> {
            dueFault("S2", NONE);
            dueFault("S2u19925030", NONE);
            dueFault("S2u19925030s0", NONE);
        });
    }

    private static void acts() {
        says("9 to 14, 31", "ACTS (SENT; MISSED; TRIED; HEARD; ANEW; WIDENED) are a row", () -> {
            SpentPasses x = deskOf("S1" + SQUARES);
            due("none at first", x.count(5), 0);
            x.send(0);
            due("SENT", x.count(5), 1);
            x.miss(0);
            due("MISSED", x.count(5), 2);
            x.attempt(0, 0);
            due("TRIED", x.count(5), 3);
            x.hear();
            due("HEARD", x.count(5), 4);
            x.renew(0, 0, 0, 1);
            due("ANEW", x.count(5), 5);
            x.widen(1);
            due("WIDENED", x.count(5), 6);
            SpentPasses other = deskOf("S1" + SQUARES + "s0");
            other.write('x');
            other.wipe();
            other.fault();
            other.see(0, 0, 0);
            other.unsee();
            other.seed(1);
            other.drawn(60);
            other.judge(1, 1000);
            other.loss(0, 1, 1, true);
            other.keep(0);
            due("no other call is one", other.count(5), 0);
            due("no other call is one", other.undo(), STATE);
        });
        says("15, 31", "(never more than 14;", () -> {
            SpentPasses x = new SpentPasses();
            for (int act = 1; act <= 30; act++) {
                x.widen(1);
                due("ACTS behind " + act, x.count(5), Math.min(act, 14));
            }
            due("undo", x.undo(), 13);
        });
        says("15", "if it has 14, the first one is forgotten ahead of the next);", () -> {
            for (int acts : new int[] {13, 14, 15, 16, 27, 28, 29, 43}) {
                dueUndoneAfter(acts);
            }
        });
        says("15", "the last one can be undone.", () -> {
            SpentPasses x = deskOf("S1" + SQUARES);
            x.widen(2);
            x.miss(0);
            x.widen(5);
            x.undo();
            due("WINDOW", x.count(2), 2);
            due("OWN", x.user(0, 3), 4);
            x.undo();
            due("OWN", x.user(0, 3), 5);
            x.undo();
            due("WINDOW", x.count(2), 1);
            due("none is left", x.undo(), STATE);
        });
        says("9 to 15", "Each that is not refused is an ACT.", () -> {
            SpentPasses x = deskOf("S1" + SQUARES + "m0m0m0");
            due("sent, but not taken", x.send(0), 0);
            due("tried, but not taken", x.attempt(0, 0), 0);
            due("anew, but not taken", x.renew(0, 0, 0, 1), 0);
            due("widened to what it was", x.widen(1), 1);
            due("ACTS", x.count(5), 4);
            x.send(1);
            x.miss(1);
            x.attempt(0, 251);
            x.renew(0, 0, 0, 0);
            x.widen(7);
            x.send(0);
            due("refused ones are none", x.count(5), 4);
        });
    }

    /** Of so many acts, by each of which the window is another one, the last 14 can be undone. */
    private static void dueUndoneAfter(int acts) {
        SpentPasses x = new SpentPasses();
        for (int act = 1; act <= acts; act++) {
            x.widen(act % 6 + 1);
        }
        for (int act = acts - 1; act >= Math.max(0, acts - 14); act--) {
            due("undo of " + acts, x.undo(), act - Math.max(0, acts - 14));
            due("WINDOW behind " + act + " of " + acts, x.count(2), act == 0 ? 1 : act % 6 + 1);
        }
        due("undo of " + acts + " once more", x.undo(), STATE);
        due("WINDOW stays", x.count(2), acts <= 14 ? 1 : (acts - 14) % 6 + 1);
    }

    // ---- part 2

    private static void fitting() {
        says("6, 16 to 20, 23 to 26", "In what follows nothing is changed.", () -> {
            for (int what = 0; what <= 10; what++) {
                int asked = what;
                Sentences.unchanged("user " + what, Sentences::busy, x -> x.user(0, asked));
            }
            Sentences.unchanged("fits", Sentences::busy, x -> x.fits(0, 25));
            Sentences.unchanged("fitting, how many", Sentences::busy, x -> x.fitting(0, 0));
            Sentences.unchanged("fitting, the least", Sentences::busy, x -> x.fitting(0, 1));
            Sentences.unchanged("thief", Sentences::busy, x -> x.thief(1));
            Sentences.unchanged("judge", Sentences::busy, x -> x.judge(4, 1000200071001100L));
            Sentences.unchanged("which", Sentences::busy, x -> x.which(1));
            Sentences.unchanged("share", Sentences::busy, x -> x.share(0, true));
            Sentences.unchanged("guess", Sentences::busy, x -> x.guess(0, 3, true));
            Sentences.unchanged("loss", Sentences::busy, x -> x.loss(0, 3, 5, true));
        });
        says("17", "FITTING of a USER: how many NUMBERS FIT it now;", () -> {
            due("0 alone", deskOf("S6" + NOUGHTS).fitting(0, 0), 1);
            due("1 and 250", deskOf("S1u25000001").fitting(0, 0), 2);
            for (int window = 1; window <= 6; window++) {
                due("two more by each step of " + window, deskOf("S" + window + LONGER).fitting(0, 0), 2 * window);
            }
            due("no more than LEFT", deskOf("S6" + LONGER + "s0s0s0s0").fitting(0, 0), 4);
            due("none", deskOf("S6u00000001s0").fitting(0, 0), 0);
            SpentPasses x = deskOf("S6" + SQUARES);
            x.attempt(0, 226);
            due("none, though 4 are left", x.fitting(0, 0), 0);
        });
        says("17", "the least; NONE.", () -> {
            due("0", deskOf("S6" + NOUGHTS).fitting(0, 1), 0);
            due("1, which 250 is as well", deskOf("S1u25000001").fitting(0, 1), 1);
            due("by a window of 1", deskOf("S1" + LONGER).fitting(0, 1), 25);
            due("by a window of 5", deskOf("S5" + LONGER).fitting(0, 1), 2);
            due("none", deskOf("S6u00000001s0").fitting(0, 1), NONE);
        });
    }

    private static void gap() {
        says("6", "GAP: how many passes of its own it could miss now, one behind the other (MISSED, 0 or more), so that it is"
            + " IN STEP then:", () -> {
                due("0", deskOf("S1" + SQUARES).user(0, 8), 0);
                due("one less than the window", deskOf("S3" + SQUARES).user(0, 8), 2);
                due("one less than it has", deskOf("S6" + SQUARES).user(0, 8), 4);
                due("two were missed before", deskOf("S3" + SQUARES + "m0m0").user(0, 8), 0);
                due("one of one", deskOf("S6u00000001").user(0, 8), 0);
            });
        says("6", "the most;", () -> {
            due("round once: 0 and 6 can be, 1 to 5 can not", deskOf("S1u00100312").user(0, 8), 6);
            due("round four times", deskOf("S1u00100330").user(0, 8), 24);
            due("29 of 30", deskOf("S1u00000030").user(0, 8), 29);
            due("0 can not be, 5 can", deskOf("S1u00100312m0").user(0, 8), 5);
        });
        says("6", "NONE: none (0 is not either).", () -> {
            due("one too many was missed", deskOf("S1" + SQUARES + "m0").user(0, 8), NONE);
            due("no pass of its own", deskOf("S6" + NOUGHTS + "m0m0m0").user(0, 8), NONE);
            due("none left at the desk", deskOf("S6u00000001s0").user(0, 8), NONE);
        });
    }

    private static void tailAndLoop() {
        says("6", "TAIL, LOOP of a USER: of NUMBERS 0, 1, 2, .. BEHIND SEED the first that comes again (its place from 0: TAIL),",
            () -> {
                due("SEED itself", deskOf("S1" + ROUND).user(0, 9), 0);
                due("SEED at once", deskOf("S1" + NOUGHTS).user(0, 9), 0);
                due("the one behind SEED", deskOf("S1" + SQUARES).user(0, 9), 1);
                due("a long way", deskOf("S1u22209201").user(0, 9), 47);
                due("a long way to a loop of one", deskOf("S1u21922801").user(0, 9), 47);
            });
        says("6", "and after how many it first comes again (LOOP).", () -> {
            due("at once", deskOf("S1" + NOUGHTS).user(0, 10), 1);
            due("at once behind a long way", deskOf("S1u21922801").user(0, 10), 1);
            due("after two", deskOf("S1" + PAIRS).user(0, 10), 2);
            due("after six", deskOf("S1" + ROUND).user(0, 10), 6);
            due("after twenty", deskOf("S1" + SQUARES).user(0, 10), 20);
            due("after a hundred", deskOf("S1u24500001").user(0, 10), 100);
            due("after a hundred, behind one", deskOf("S1u24800001").user(0, 10), 100);
        });
    }

    /** A user in a window, of whom one number was tried and heard. */
    private static SpentPasses overheard(String text, int v) {
        SpentPasses x = deskOf(text);
        x.attempt(0, v);
        x.hear();
        return x;
    }

    private static void thief() {
        says("18", "THIEF of a USER: of all that was HEARD of it,", () -> {
            for (int seed = 0; seed <= 250; seed++) {
                String told = String.format("S1u%03d00001", seed);
                due("none was heard in " + told, deskOf(told).thief(0), NONE);
            }
            SpentPasses x = overheard("S2" + LONGER + LONGER, 0);
            x.widen(1);
            x.attempt(0, 5);
            x.hear();
            for (int i = 0; i < 5; i++) {
                x.attempt(0, 0);
                x.hear();
            }
            due("the second of seven", x.thief(0), 25);
            due("the other user", x.thief(1), NONE);
            SpentPasses second = deskOf("S1" + NOUGHTS + NOUGHTS + NOUGHTS + NOUGHTS);
            for (int user = 3; user > 0; user -= 2) {
                due("not heard yet of " + user, second.thief(user), NONE);
                second.attempt(user, 0);
                second.hear();
                due("heard of " + user, second.thief(user), 0);
            }
            due("not heard of 0", second.thief(0), NONE);
            due("not heard of 2", second.thief(2), NONE);
            SpentPasses last = deskOf("S1" + NOUGHTS);
            for (int i = 0; i < 8; i++) {
                last.attempt(0, i < 7 ? 1 : 0);
                last.hear();
            }
            last.undo();
            last.undo();
            due("seven of no use", last.thief(0), NONE);
            last.attempt(0, 0);
            last.hear();
            due("the eighth", last.thief(0), 0);
        });
        says("18", "and what is 1 to 10 BEHIND any of these by its SALT,", () -> {
            SpentPasses x = overheard("S1" + SQUARES, 5);
            x.widen(2);
            due("0 behind it: itself", x.thief(0), 5);
            due("1 behind it", overheard("S1u00200002", 2).thief(0), 4);
            due("10 behind it", overheard("S1u00200011", 2).thief(0), 125);
            due("11 behind it", overheard("S1u00200012", 2).thief(0), NONE);
            due("2 behind it, by its salt", overheard("S1u00100303", 1).thief(0), 19);
        });
        says("18", "the least NUMBER that FITS it now; NONE.", () -> {
            due("25, 5, 16 and 4 all do", overheard("S4" + SQUARES, 2).thief(0), 4);
            due("25 and 5 do", overheard("S2" + SQUARES, 2).thief(0), 5);
            SpentPasses later = overheard("S2" + SQUARES, 16);
            later.widen(3);
            due("16 does, but 5 behind it is less", later.thief(0), 5);
            int[][] both = {{246, 5}, {5, 246}};
            for (int[] two : both) {
                SpentPasses heard = overheard("S1" + SQUARES, two[0]);
                heard.attempt(0, two[1]);
                heard.hear();
                heard.widen(2);
                due("246 and 25 do, and 5, whichever was heard first", heard.thief(0), 5);
            }
            due("0 does", overheard("S1u00000002", 0).thief(0), 0);
            SpentPasses x = overheard("S2" + SQUARES, 2);
            x.attempt(0, 5);
            due("16 and 4 are ahead of 5", x.thief(0), 4);
            x.attempt(0, 235);
            due("none is ahead of 235", x.thief(0), NONE);
        });
    }

    private static void dueJudged(SpentPasses x, int n, long row, int want) {
        due("judge " + n + ", " + row, x.judge(n, row), want);
    }

    private static void judgedRow() {
        says("20", "JUDGED: n doings (1 to 4), told as four figures each", () -> {
            SpentPasses x = new SpentPasses();
            dueJudged(x, 0, 0, OUTSIDE);
            dueJudged(x, 1, 7100, NONE);
            dueJudged(x, 2, 71007200L, NONE);
            dueJudged(x, 3, 710072007300L, NONE);
            dueJudged(x, 4, 7100720073007400L, NONE);
            dueJudged(x, 5, 7100720073007400L, OUTSIDE);
            dueJudged(x, 1, 9999, 0);
            dueJudged(x, 1, 10000, OUTSIDE);
            dueJudged(x, 4, 9999999999999999L, 0);
            dueJudged(x, 4, 10000000000000000L, OUTSIDE);
        });
        says("20", "(the first one's are the highest of row)", () -> {
            SpentPasses x = deskOf("S1u00000002");
            dueJudged(x, 2, 30022000L, NONE);
            dueJudged(x, 2, 20003002L, 1);
            dueJudged(x, 2, 7100, 0);
            dueJudged(x, 4, 0, 0);
        });
    }

    private static void judgedDoings() {
        says("20", "(1, a USER, 0, 0: SENT;", () -> {
            SpentPasses x = deskOf("S1u00000001u00000001m0");
            dueJudged(x, 1, 1100, NONE);
            dueJudged(x, 1, 1000, 0);
            dueJudged(x, 1, 1200, 0);
            dueJudged(x, 1, 1900, 0);
            dueJudged(x, 1, 1101, 0);
            dueJudged(x, 1, 1110, 0);
            dueJudged(x, 2, 11001100L, 1);
        });
        says("20", "2, a USER, 0, 0: MISSED;", () -> {
            SpentPasses x = deskOf("S1u00000001u00000001s0");
            dueJudged(x, 1, 2100, NONE);
            dueJudged(x, 1, 2000, 0);
            dueJudged(x, 1, 2200, 0);
            dueJudged(x, 1, 2900, 0);
            dueJudged(x, 1, 2101, 0);
            dueJudged(x, 1, 2110, 0);
            dueJudged(x, 2, 21002100L, 1);
        });
        says("20", "3, a USER, two figures v: OWN is v;", () -> {
            SpentPasses x = deskOf("S1u00000030u00000001m1");
            dueJudged(x, 1, 3030, NONE);
            dueJudged(x, 1, 3029, 0);
            dueJudged(x, 1, 3031, 0);
            dueJudged(x, 1, 3003, 0);
            dueJudged(x, 1, 3000, 0);
            dueJudged(x, 1, 3100, NONE);
            dueJudged(x, 1, 3101, 0);
            dueJudged(x, 1, 3199, 0);
            dueJudged(x, 1, 3200, 0);
            dueJudged(x, 1, 3900, 0);
        });
        says("20", "4, a USER, two figures v: LEFT is v;", () -> {
            SpentPasses x = deskOf("S1u00000030u00000001m0s1");
            dueJudged(x, 1, 4030, NONE);
            dueJudged(x, 1, 4029, 0);
            dueJudged(x, 1, 4031, 0);
            dueJudged(x, 1, 4003, 0);
            dueJudged(x, 1, 4100, NONE);
            dueJudged(x, 1, 4101, 0);
            dueJudged(x, 1, 4199, 0);
            dueJudged(x, 1, 4200, 0);
            dueJudged(x, 1, 4900, 0);
        });
        says("20", "5, three figures a NUMBER: it FITS some USER;", () -> {
            SpentPasses x = deskOf("S2u00000001u25000001" + SQUARES);
            dueJudged(x, 1, 5000, NONE);
            dueJudged(x, 1, 5250, NONE);
            dueJudged(x, 1, 5246, NONE);
            dueJudged(x, 1, 5016, 0);
            dueJudged(x, 1, 5251, 0);
            dueJudged(x, 1, 5497, 0);
            dueJudged(x, 1, 5999, 0);
            dueJudged(deskOf("S1"), 1, 5000, 0);
            dueJudged(deskOf("S1u00000001s0"), 1, 5000, 0);
        });
        says("20", "6, a USER, 0, 1 or 0: IN STEP, or not;", () -> {
            SpentPasses x = deskOf("S1" + SQUARES + SQUARES + "m1");
            dueJudged(x, 1, 6001, NONE);
            dueJudged(x, 1, 6000, 0);
            dueJudged(x, 1, 6100, NONE);
            dueJudged(x, 1, 6101, 0);
            dueJudged(x, 1, 6002, 0);
            dueJudged(x, 1, 6102, 0);
            dueJudged(x, 1, 6009, 0);
            dueJudged(x, 1, 6011, 0);
            dueJudged(x, 1, 6110, 0);
            dueJudged(x, 1, 6200, 0);
            dueJudged(x, 1, 6201, 0);
            dueJudged(x, 1, 6900, 0);
        });
        says("20", "7, w, 0, 0: WIDENED to w (1 to 6)):", () -> {
            SpentPasses x = new SpentPasses();
            dueJudged(x, 1, 7000, 0);
            for (int w = 1; w <= 6; w++) {
                dueJudged(x, 1, 7000 + 100 * w, NONE);
            }
            dueJudged(x, 1, 7700, 0);
            dueJudged(x, 1, 7900, 0);
            dueJudged(x, 1, 7601, 0);
            dueJudged(x, 1, 7610, 0);
        });
    }

    private static void judgedInTurn() {
        says("20", "the place of the first that can not be (or is not so);", () -> {
            SpentPasses x = deskOf("S1" + SQUARES);
            dueJudged(x, 1, 0, 0);
            dueJudged(x, 1, 999, 0);
            dueJudged(x, 1, 8000, 0);
            dueJudged(x, 1, 9000, 0);
            dueJudged(x, 4, 3005300580003004L, 2);
            dueJudged(x, 4, 3005300430033002L, 1);
            dueJudged(x, 4, 3005300530053004L, 3);
            dueJudged(x, 4, 1900200020002000L, 0);
        });
        says("20", "(or is not so); NONE: none.", () -> {
            SpentPasses x = deskOf("S1" + SQUARES);
            dueJudged(x, 1, 3005, NONE);
            dueJudged(x, 4, 3005400550256001L, NONE);
        });
        says("20", "1 (TAKEN or not), 2, 7 are done, from then on", () -> {
            SpentPasses x = deskOf("S1" + SQUARES);
            dueJudged(x, 3, 100030044004L, NONE);
            dueJudged(x, 3, 200030044005L, NONE);
            dueJudged(x, 4, 2000100030034005L, NONE);
            dueJudged(x, 3, 720020006001L, NONE);
            dueJudged(x, 4, 7600710020006000L, NONE);
            dueJudged(x, 4, 2000720010004003L, NONE);
        });
        says("20", "(for this call alone);", () -> {
            Sentences.unchanged("judge", Sentences::busy, x -> x.judge(4, 1000200071001000L));
            SpentPasses x = deskOf("S1u00000001");
            dueJudged(x, 1, 1000, NONE);
            dueJudged(x, 1, 1000, NONE);
            dueJudged(x, 1, 7600, NONE);
            due("WINDOW", x.count(2), 1);
        });
        says("20", "3 to 6 are asked as it is then.", () -> {
            SpentPasses x = deskOf("S1" + SQUARES);
            dueJudged(x, 3, 300510003004L, NONE);
            dueJudged(x, 3, 400510004004L, NONE);
            dueJudged(x, 3, 502510005005L, NONE);
            dueJudged(x, 2, 10005025L, 1);
            dueJudged(x, 3, 600120006000L, NONE);
            dueJudged(x, 4, 2000600060013004L, 2);
        });
    }

    // ---- part 3

    private static void seen() {
        String words = "SEEN: that by an unknown SEED (a NUMBER) and the SALT of a USER pass i (0 to 29) is v (a NUMBER):";
        says("21, 23", words, () -> {
            SpentPasses x = deskOf("S1" + SQUARES);
            due("i -1", x.see(0, -1, 0), OUTSIDE);
            due("i 30", x.see(0, 30, 0), OUTSIDE);
            due("v -1", x.see(0, 0, -1), OUTSIDE);
            due("v 251", x.see(0, 0, 251), OUTSIDE);
            due("pass 0, 250", x.see(0, 0, 250), 1);
            due("that SEED alone", x.which(1), 250);
            x.unsee();
            due("pass 29, whatever N is", x.see(0, 29, 0), 1);
            due("0 alone comes to 0", x.which(0), 1);
            due("0 alone comes to 0", x.which(1), 0);
        });
        says("21, 31", "never more than 6,", () -> {
            SpentPasses x = new SpentPasses();
            for (int count = 1; count <= 6; count++) {
                due("see", x.see(0, 0, 0), count);
            }
            due("a seventh", x.see(0, 0, 0), FULL);
            due("SEEN", x.count(6), 6);
        });
        says("1, 22, 31", "never more than 6, none at first", () -> {
            due("SEEN", new SpentPasses().count(6), 0);
            due("unsee", new SpentPasses().unsee(), 0);
        });
        says("5, 23", "(another DESK leaves them;", () -> {
            SpentPasses x = deskOf("S1" + SQUARES);
            x.see(0, 0, 9);
            Sentences.spell(x, "S1" + ROUND);
            x.desk();
            due("SEEN", x.count(6), 1);
            due("the SEED", x.which(1), 9);
        });
        says("23", "of USERS that there are not any more nothing is looked at;", () -> {
            SpentPasses x = deskOf("S1" + SQUARES + SQUARES);
            x.see(1, 0, 9);
            x.see(1, 0, 8);
            due("no SEED", x.which(0), 0);
            Sentences.spell(x, "S1" + SQUARES);
            x.desk();
            due("all SEEDS", x.which(0), 251);
            due("they are SEEN yet", x.count(6), 2);
            Sentences.spell(x, "S1" + SQUARES + SQUARES);
            x.desk();
            due("no SEED again", x.which(0), 0);
        });
        says("13, 23", "SALT as it is when that is asked).", () -> {
            SpentPasses x = deskOf("S1u00000004");
            x.see(0, 1, 4);
            due("4 is 2 times 2", x.which(1), 2);
            x.renew(0, 0, 3, 1);
            due("4 is 1 times 1, and 3", x.which(1), 1);
            x.undo();
            due("4 is 2 times 2 again", x.which(1), 2);
        });
    }

    private static void which() {
        says("23", "WHICH: SEEDS (one for all) by which all that is SEEN is so:", () -> {
            SpentPasses x = deskOf("S1u00000001u00000301");
            x.see(0, 1, 4);
            due("2 and 249", x.which(0), 2);
            x.see(1, 1, 7);
            due("2 and 249 by the other, too", x.which(0), 2);
            x.see(1, 0, 249);
            due("249 for all", x.which(0), 1);
            due("249 for all", x.which(1), 249);
            x.see(0, 0, 249);
            x.see(0, 0, 249);
            x.see(0, 0, 2);
            due("not by the sixth", x.which(0), 0);
        });
        says("23", "is so: how many; the least; NONE.", () -> {
            SpentPasses x = deskOf("S1u00000001");
            due("nothing is SEEN: how many", x.which(0), 251);
            due("nothing is SEEN: the least", x.which(1), 0);
            x.see(0, 0, 250);
            due("one", x.which(0), 1);
            due("the greatest is the least", x.which(1), 250);
            x.see(0, 0, 0);
            due("none: how many", x.which(0), 0);
            due("none: the least", x.which(1), NONE);
        });
    }

    private static void dueShare(String text, int user, int above, int below) {
        SpentPasses x = deskOf(text);
        due("share of " + user + " in " + text + ", above", x.share(user, true), above);
        due("share of " + user + " in " + text + ", below", x.share(user, false), below);
    }

    private static void share() {
        says("24", "SHARE of a USER: if USERS come one by one, in each order as likely: how many more NUMBERS FIT any that"
            + " has come in the mean when it has come: a FRACTION.", () -> {
                dueShare("S6" + LONGER, 0, 12, 1);
                dueShare("S1" + NOUGHTS, 0, 1, 1);
                dueShare("S1u25000001", 0, 2, 1);
                dueShare("S1u00000001s0", 0, 0, 1);
                dueShare("S1" + NOUGHTS + NOUGHTS, 1, 1, 2);
                dueShare("S1" + NOUGHTS + NOUGHTS + NOUGHTS, 2, 1, 3);
                dueShare("S1" + NOUGHTS + NOUGHTS + NOUGHTS + NOUGHTS, 3, 1, 4);
                dueShare("S1u00000001u00000001u00000001u00000001s0", 3, 1, 3);
                dueShare("S1" + NOUGHTS + SQUARES, 0, 1, 1);
                dueShare("S1" + NOUGHTS + SQUARES, 1, 2, 1);
                // 25 and 226 fit all four, 5 and 246 the last three, 16 and 235 the last two.
                dueShare("S3u02500001u00500002u01600003u01600003", 0, 1, 2);
                dueShare("S3u02500001u00500002u01600003u01600003", 1, 7, 6);
                dueShare("S3u02500001u00500002u01600003u01600003", 3, 13, 6);
            });
    }

    private static void dueGuess(String text, int n, int above, int below) {
        SpentPasses x = deskOf(text);
        due("guess of " + n + " in " + text + ", above", x.guess(0, n, true), above);
        due("guess of " + n + " in " + text + ", below", x.guess(0, n, false), below);
    }

    private static void guess() {
        says("25", "GUESS of a USER: n NUMBERS (0 to 3),", () -> {
            dueGuess("S1" + NOUGHTS, 0, 0, 1);
            dueGuess("S1" + NOUGHTS, 1, 1, 251);
            dueGuess("S1" + NOUGHTS, 3, 15813251 - 15625000, 15813251);
            dueGuess("S1" + NOUGHTS, -1, OUTSIDE, OUTSIDE);
            dueGuess("S1" + NOUGHTS, 4, OUTSIDE, OUTSIDE);
        });
        says("25", "each of all as likely, by itself, all looked at as it is now: that one of them at least FITS it:"
            + " a FRACTION.", () -> {
                dueGuess("S1" + NOUGHTS, 2, 501, 63001);
                dueGuess("S1u00000001", 3, 188251, 15813251);
                dueGuess("S6" + LONGER, 1, 12, 251);
                dueGuess("S6" + LONGER, 3, 15813251 - 239 * 239 * 239, 15813251);
                dueGuess("S1u00000001s0", 3, 0, 1);
            });
    }

    private static void dueLoss(String text, int r, int x, int above, int below) {
        SpentPasses desk = deskOf(text);
        due("loss of " + r + " by " + x + " in " + text + ", above", desk.loss(0, r, x, true), above);
        due("loss of " + r + " by " + x + " in " + text + ", below", desk.loss(0, r, x, false), below);
    }

    private static void loss() {
        says("26", "LOSS of a USER: r passes one behind the other from now (0 to 6;", () -> {
            dueLoss("S1u00200030", -1, 5, OUTSIDE, OUTSIDE);
            dueLoss("S1u00200030", 0, 5, 1, 1);
            dueLoss("S1u00200030m0", 0, 5, 0, 1);
            dueLoss("S1u00200030", 6, 5, 1, 64);
            dueLoss("S1u00200030", 7, 5, OUTSIDE, OUTSIDE);
        });
        says("26", "r no more than OWN),", () -> {
            dueLoss("S1" + SQUARES, 5, 0, 0, 1);
            dueLoss("S1" + SQUARES, 6, 0, STATE, STATE);
            dueLoss("S1u00000001m0", 0, 0, 0, 1);
            dueLoss("S1u00000001m0", 1, 0, STATE, STATE);
        });
        says("26", "each MISSED by x tenths (0 to 10),", () -> {
            dueLoss("S1" + SQUARES, 1, -1, OUTSIDE, OUTSIDE);
            dueLoss("S1" + SQUARES, 1, 0, 1, 1);
            dueLoss("S1" + SQUARES, 1, 1, 9, 10);
            dueLoss("S1" + SQUARES, 1, 9, 1, 10);
            dueLoss("S1" + SQUARES, 1, 10, 0, 1);
            dueLoss("S1" + SQUARES, 1, 11, OUTSIDE, OUTSIDE);
            dueLoss("S6u00200030", 5, 10, 1, 1);
            dueLoss("S6u00200030", 6, 10, 0, 1);
        });
        says("26", "by itself, else SENT: that it is IN STEP then: a FRACTION.", () -> {
            dueLoss("S2" + SQUARES, 2, 1, 99, 100);
            dueLoss("S2u00200030", 3, 5, 5, 8);
            dueLoss("S1u00100330", 6, 1, 631441, 1000000);
            dueLoss("S1u00000030", 6, 3, 1, 1);
        });
    }

    private static void dueDrawn(String when, SpentPasses x, long seed, int m, int want) {
        x.seed(seed);
        due(when, x.drawn(m), want);
    }

    private static void drawn() {
        String four = "S1" + NOUGHTS + NOUGHTS + NOUGHTS + NOUGHTS;
        says("28", "DRAWN by THE SEED OF DAYS: m times (1 to 60)", () -> {
            due("m 0", deskOf(four).drawn(0), OUTSIDE);
            due("m 1", deskOf(four).drawn(1), 1);
            due("m 61", deskOf(four).drawn(61), OUTSIDE);
            SpentPasses x = new SpentPasses();
            due("m 60", x.drawn(60), 0);
            long sixty = 0;
            for (int i = 0; i < 60; i++) {
                sixty = nextDay(sixty);
            }
            due("the seed behind 60", x.seed(0), sixty);
        });
        says("27, 28", "x (that, a long; 0 at first)", () -> {
            due("at first", new SpentPasses().seed(1), 0);
            SpentPasses x = new SpentPasses();
            x.drawn(1);
            due("one day from 0", x.seed(0), 1442695040888963407L);
        });
        says("28", "becomes x * 6364136223846793005L + 1442695040888963407L (64 bits, wrapping);", () -> {
            SpentPasses x = new SpentPasses();
            for (long seed : new long[] {1, -1, Long.MAX_VALUE, Long.MIN_VALUE, 1876011003808476466L}) {
                x.seed(seed);
                x.drawn(1);
                due("a day from " + seed, x.seed(0), nextDay(seed));
            }
        });
        says("28", "v is (int) (x >>> 33):", () -> {
            // Behind it the seed is less than 0: user 3 sends.
            dueDrawn("a day less than 0", deskOf(four), 7076646890315895283L, 1, 1);
            dueDrawn("a day above 0", deskOf(four), 0, 1, 1);
        });
        says("28", "USER v % 4, if there is such a one with OWN above 0,", () -> {
            // By 0: 3, then 0 sends, 1 misses, 0 and 1 send, 3, then 0 sends.
            dueDrawn("there is no user 3", deskOf("S1" + NOUGHTS + NOUGHTS + NOUGHTS), 0, 1, 0);
            dueDrawn("nobody", new SpentPasses(), 0, 60, 0);
            dueDrawn("user 0 has one alone", deskOf("S1u00000001"), 0, 7, 1);
            dueDrawn("user 0 has two alone", deskOf("S1u00000002"), 0, 7, 2);
            dueDrawn("user 0 has none, but 2 are left at the desk", deskOf("S6u00000002m0m0"), 0, 60, 0);
        });
        says("28", "MISSES, if v / 4 % 4 is 0, else SENDS,", () -> {
            dueDrawn("user 1 misses", deskOf(four), 1876011003808476466L, 1, 0);
            dueDrawn("and sends what is 2 ahead by a window of 1", deskOf("S1" + SQUARES + SQUARES), 0, 5, 2);
            dueDrawn("and by a window of 2", deskOf("S2" + SQUARES + SQUARES), 0, 5, 3);
        });
        says("28", "from how all is now: how many are TAKEN.", () -> {
            SpentPasses x = deskOf("S1u00000001u00000001u00000001u00000001");
            dueDrawn("a day", x, 0, 1, 1);
            dueDrawn("the same day", x, 0, 1, 1);
            x.seed(0);
            x.drawn(1);
            due("days go on, but 3 has its one pass as now: 0 and 3", x.drawn(5), 2);
            x.miss(3);
            dueDrawn("3 has none now", x, 0, 6, 1);
            dueDrawn("what is sent, but not taken", deskOf("S1" + SQUARES + "m0"), 0, 7, 0);
        });
        says("28", "(Nothing changes but THE SEED OF DAYS.)", () -> {
            Sentences.unchanged("drawn", Sentences::busy, x -> {
                x.drawn(60);
                return x.seed(77);
            });
            SpentPasses x = new SpentPasses();
            x.drawn(2);
            due("the seed of days", x.seed(0), 1876011003808476466L);
        });
    }

    /** By numbers without an end, and what 64 bits keep of them. */
    private static long nextDay(long x) {
        return java.math.BigInteger.valueOf(x).multiply(java.math.BigInteger.valueOf(6364136223846793005L))
            .add(java.math.BigInteger.valueOf(1442695040888963407L)).longValue();
    }

    private static void slots() {
        says("29, 30", "SLOTS to keep in, 0 to 1,", () -> {
            SpentPasses x = deskOf("S1" + SQUARES);
            due("slot -1", x.keep(-1), UNKNOWN);
            due("slot 2", x.keep(2), UNKNOWN);
            due("slot 0", x.keep(0), 1);
            x.miss(0);
            due("slot 1", x.keep(1), 1);
            due("slot -1", x.again(-1), UNKNOWN);
            due("slot 2", x.again(2), UNKNOWN);
            due("slot 0", x.again(0), 1);
            due("OWN in slot 0", x.user(0, 3), 5);
            due("slot 1", x.again(1), 1);
            due("OWN in slot 1", x.user(0, 3), 4);
        });
        says("29, 30", "keep USERS with all that they have, what THE DESK has, WINDOW, THE WIRE, what was HEARD", () -> {
            SpentPasses x = deskOf("S2" + SQUARES + ROUND + "m0s0");
            x.hear();
            x.keep(1);
            x.renew(1, 250, 249, 30);
            x.hear();
            x.send(0);
            x.widen(6);
            x.again(1);
            int[] first = {2, 0, 5, 3, 5, 3};
            int[] second = {1, 3, 6, 6, 1, 6};
            for (int what = 0; what < 6; what++) {
                due("user 0, " + what, x.user(0, what), first[what]);
                due("user 1, " + what, x.user(1, what), second[what]);
            }
            due("USERS", x.count(1), 2);
            due("WINDOW", x.count(2), 2);
            due("THE WIRE", x.count(3), 5);
            due("HEARD", x.count(4), 1);
            due("what was HEARD", x.heard(0), 5);
            due("no more", x.heard(1), NONE);
        });
        says("30", "(THE ROW of ACTS is empty when one goes on).", () -> {
            SpentPasses x = deskOf("S1" + SQUARES);
            x.miss(0);
            x.keep(0);
            due("keeping leaves the row", x.count(5), 1);
            x.miss(0);
            x.again(0);
            due("ACTS", x.count(5), 0);
            due("undo", x.undo(), STATE);
            x.miss(0);
            due("the first one of the new row", x.undo(), 0);
            due("OWN", x.user(0, 3), 4);
        });
    }

    // ---- part 4

    private static void morePlainly() {
        says("13", "MORE PLAINLY: behind ANEW LAST is N BEHIND the new SEED by the new SALT, LEFT and OWN are N;", () -> {
            for (int n : new int[] {1, 2, 30}) {
                SpentPasses x = deskOf("S1" + SQUARES + "s0s0s0s0");
                due("renew", x.renew(0, 250, 250, n), 1);
                dueRow("anew", x, 0, n, n == 1 ? 0 : 250, n);
            }
        });
        says("13, 18", "what was HEARD of it stays, looked at by its SALT as it is.", () -> {
            SpentPasses x = deskOf("S1" + SQUARES + "s0");
            x.hear();
            due("by 0: none fits", x.thief(0), NONE);
            due("renew", x.renew(0, 25, 1, 2), 1);
            due("HEARD", x.heard(0), 25);
            due("626, and 124 is 1 behind 25 by 1", x.thief(0), 124);
        });
        says("11", "A NUMBER that FITS by chance is TAKEN like a pass: the USER may be out of step for good then.", () -> {
            SpentPasses x = deskOf("S6" + SQUARES);
            due("226, which is no pass", x.attempt(0, 226), 1);
            dueRow("taken", x, 0, 5, 226, 4);
            for (int own = 4; own >= 0; own--) {
                due("not in step", x.user(0, 6), 0);
                due("not taken", x.send(0), 0);
            }
            dueRow("out of step for good", x, 0, 0, 226, 4);
        });
        says("9", "LEFT counts down by k, OWN by one each.", () -> {
            SpentPasses x = deskOf("S3" + PAIRS);
            x.miss(0);
            due("0 is 2 ahead", x.send(0), 2);
            dueRow("2 and 2", x, 0, 2, 0, 2);
            x.attempt(0, 0);
            dueRow("0 and 2", x, 0, 2, 0, 0);
        });
        says("6", "IN STEP asks THE DESK alone, whether LEFT is OWN or not.", () -> {
            SpentPasses less = deskOf("S1" + NOUGHTS);
            less.attempt(0, 0);
            less.attempt(0, 0);
            due("LEFT is 1", less.user(0, 5), 1);
            due("OWN is 3", less.user(0, 3), 3);
            due("LEFT is less than OWN", less.user(0, 6), 1);
            due("LEFT is above OWN", deskOf("S1" + NOUGHTS + "m0m0").user(0, 6), 1);
            due("LEFT is OWN, out of step by a chance", outByChance().user(0, 6), 0);
        });
        says("6", "TAIL, LOOP by SEED, SALT as they are; N does not matter.", () -> {
            for (String n : new String[] {"01", "30"}) {
                SpentPasses x = deskOf("S1u222092" + n);
                due("TAIL", x.user(0, 9), 47);
                due("LOOP", x.user(0, 10), 2);
                x.send(0);
                due("TAIL, whatever OWN is", x.user(0, 9), 47);
                due("LOOP, whatever OWN is", x.user(0, 10), 2);
                x.undo();
                x.renew(0, 1, 3, 1);
                due("TAIL anew", x.user(0, 9), 0);
                due("LOOP anew", x.user(0, 10), 6);
            }
        });
    }

    /** One was taken by chance, and one was missed. */
    private static SpentPasses outByChance() {
        SpentPasses x = deskOf("S1" + SQUARES + "m0");
        x.attempt(0, 226);
        return x;
    }
}
