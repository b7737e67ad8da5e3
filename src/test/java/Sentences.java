import java.io.IOException;
import java.nio.charset.StandardCharsets;
import java.nio.file.Files;
import java.nio.file.Path;
import java.util.function.Supplier;
import java.util.function.ToLongFunction;

/**
 * Tests that stand for one sentence of the document each, and name it by its own words. What is left of a part of the
 * document that no test names is a fault too, so that no sentence is passed over.
 */
final class Sentences {
    static final int UNKNOWN = SpentPasses.UNKNOWN, OUTSIDE = SpentPasses.OUTSIDE, STATE = SpentPasses.STATE,
        FULL = SpentPasses.FULL, NONE = SpentPasses.NONE;
    static final int MIN = Integer.MIN_VALUE, MAX = Integer.MAX_VALUE;

    /** Passes 2, 4, 16, 5, 25, and 123 is LAST: 25 and 226 are 1 ahead of it, 5 and 246 2, 16 and 235 3, 4 and 247 4. */
    static final String SQUARES = "u00200005";
    /** Passes 91, 249, 4, 16, 5, 25, and 123 is LAST: as above, but one pass more, 6 ahead of it. */
    static final String LONGER = "u09100006";
    /** Passes 1, 4, 19, 113, 222, 91, and round again: 1 is LAST. */
    static final String ROUND = "u00100306";
    /** Passes 0, 250, 0, 250, and 0 is LAST. */
    static final String PAIRS = "u00025004";
    /** Three passes, all 0, and 0 is LAST: 0 alone fits, by 1. */
    static final String NOUGHTS = "u00000003";

    private static final Path DOCUMENT = Path.of("../shared/DOC.md");
    private static final int PROBES = 8;

    /** Without it the calls are tested all the same; only the words are not compared. */
    private static boolean isDocumentHere = false;
    private static String part = "";
    private static boolean[] named = {};
    private static String test = "";
    private static int checks = 0;
    private static int tests = 0;
    private static int wrong = 0;

    private Sentences() {
    }

    // ---- the document

    /** From here on the tests name words of this part of the document. */
    static void openPart(String heading) {
        closePart();
        isDocumentHere = Files.isReadable(DOCUMENT);
        part = isDocumentHere ? withoutFrame(section(heading)) : "";
        named = new boolean[part.length()];
    }

    /** Tells which words of the part were named by no test. */
    static void closePart() {
        int begun = 0;
        for (int i = 0; i <= named.length; i++) {
            if (i == named.length || named[i]) {
                String left = part.substring(begun, i);
                if (left.matches(".*[A-Za-z0-9].*")) {
                    fail("no test names the words \"" + left.trim() + "\"");
                }
                begun = i + 1;
            }
        }
        part = "";
        named = new boolean[0];
    }

    private static String section(String heading) {
        try {
            String all = "\n" + Files.readString(DOCUMENT, StandardCharsets.UTF_8) + "\n## ";
            int from = all.indexOf("\n## " + heading);
            return from < 0 ? "" : all.substring(all.indexOf('\n', from + 1), all.indexOf("\n## ", from + 1));
        } catch (IOException cannot) {
            fail("the document can not be read: " + cannot);
            return "";
        }
    }

    /** One line without fences, the numbers of parts, signatures, and what the interface's headings are. */
    private static String withoutFrame(String text) {
        return text.replaceAll("```(text)?", " ").replaceAll("(?m)^Ahead of the calls .*$", " ")
            .replaceAll("==== [0-9] ", " ").replaceAll("(?m)^`[^`]*`: ", " ").replaceAll("\\s+", " ").trim();
    }

    private static void name(String words) {
        if (!isDocumentHere) {
            return;
        }
        int at = part.indexOf(words);
        if (at < 0) {
            fail("these words are not in the document: \"" + words + "\"");
            return;
        }
        for (int i = at; i < at + words.length(); i++) {
            named[i] = true;
        }
    }

    // ---- tests

    /** A test of these words alone, seen by the calls of these promises. */
    static void says(String promises, String words, Runnable body) {
        test = "promise " + promises + ", \"" + words + "\"";
        tests++;
        name(words);
        int before = checks;
        try {
            body.run();
        } catch (RuntimeException thrown) {
            fail(test + ": a call threw " + thrown);
        }
        if (checks == before) {
            fail(test + ": nothing was looked at");
        }
    }

    /** Words that no call can break. */
    static void saysNothing(String words) {
        name(words);
    }

    static void due(String call, long got, long want) {
        checks++;
        if (got != want) {
            fail(test + ": " + call + " answered " + got + ", due is " + want);
        }
    }

    private static void fail(String what) {
        wrong++;
        System.out.println(what);
    }

    static void end() {
        closePart();
        if (!isDocumentHere) {
            System.out.println("there is no " + DOCUMENT + ": the words of the tests were not compared with it");
        }
        System.out.println(tests + " tests, " + checks + " answers: " + (wrong == 0 ? "all as due" : wrong + " faults"));
        if (wrong != 0) {
            System.exit(1);
        }
    }

    // ---- objects

    static void spell(SpentPasses x, String text) {
        x.wipe();
        for (int i = 0; i < text.length(); i++) {
            x.write(text.charAt(i));
        }
    }

    static SpentPasses deskOf(String text) {
        SpentPasses x = new SpentPasses();
        spell(x, text);
        int users = x.desk();
        if (users < 0) {
            fail(test + ": the text " + text + " is no desk");
        }
        return x;
    }

    /** One of which much can be told: users, acts, what was heard, kept and seen, days. */
    static SpentPasses busy() {
        SpentPasses x = deskOf("S2" + SQUARES + ROUND + "s0m1");
        x.send(1);
        x.hear();
        x.attempt(0, 7);
        x.hear();
        x.keep(0);
        x.widen(3);
        x.miss(0);
        x.keep(1);
        x.renew(1, 9, 8, 7);
        x.see(0, 1, 16);
        x.see(3, 2, 5);
        x.seed(77);
        return x;
    }

    /** Its one user has no passes of its own any more, though 1 is left at the desk. */
    static SpentPasses spent() {
        return deskOf("S1u00000002s0m0");
    }

    /** Nothing more can be written, heard or seen. */
    static SpentPasses full() {
        SpentPasses x = deskOf("S2" + SQUARES + "s0");
        for (int i = 0; i < 8; i++) {
            x.hear();
        }
        for (int i = 0; i < 6; i++) {
            x.see(0, 1, 4);
        }
        for (int i = x.count(0); i < 80; i++) {
            x.write('s');
        }
        return x;
    }

    static int faultOf(String text) {
        SpentPasses x = new SpentPasses();
        spell(x, text);
        return x.fault();
    }

    // ---- what does not change

    /** The call is refused so, and an object that it was asked of stands as one that it was not asked of. */
    static void refused(String call, Supplier<SpentPasses> made, ToLongFunction<SpentPasses> asked, long refusal) {
        due(call, asked.applyAsLong(made.get()), refusal);
        unchanged(call, made, asked);
    }

    /** Whatever the call answers, nothing changes by it. */
    static void unchanged(String call, Supplier<SpentPasses> made, ToLongFunction<SpentPasses> asked) {
        for (int probe = 0; probe < PROBES; probe++) {
            SpentPasses x = made.get();
            asked.applyAsLong(x);
            checks++;
            String got = probed(x, probe);
            String want = probed(made.get(), probe);
            if (!got.equals(want)) {
                fail(test + ": " + call + " changed something: " + got + " is, due is " + want);
            }
        }
    }

    /** Each probe has an object of its own, since most of them change it, and no object is asked more than 512 times. */
    private static String probed(SpentPasses x, int probe) {
        switch (probe) {
            case 0: return standing(x);
            case 1: return undone(x);
            case 2: return x.again(0) + ": " + standing(x);
            case 3: return x.again(1) + ": " + standing(x);
            case 4: return x.desk() + ": " + standing(x);
            case 5: return seenOf(x);
            case 6: return goneOn(x);
            default: return "the seed of days " + x.seed(0);
        }
    }

    /** What is asked by the users comes first: a fault, a judgement or a loss is found in mind, and must leave no trace. */
    static String standing(SpentPasses x) {
        StringBuilder all = new StringBuilder();
        for (int user = 0; user < 4; user++) {
            all.append("user ").append(user).append(':');
            for (int what = 0; what <= 10; what++) {
                all.append(' ').append(x.user(user, what));
            }
            all.append(' ').append(x.pass(user, 0)).append(' ').append(x.pass(user, 5)).append(' ').append(x.fits(user, 5))
                .append(' ').append(x.fitting(user, 0)).append(' ').append(x.fitting(user, 1)).append(' ').append(x.thief(user))
                .append(' ').append(x.share(user, true)).append(' ').append(x.guess(user, 2, true)).append(", ");
        }
        all.append("heard");
        for (int i = 0; i < 8; i++) {
            all.append(' ').append(x.heard(i));
        }
        all.append(", counts");
        for (int what = 0; what <= 6; what++) {
            all.append(' ').append(x.count(what));
        }
        for (int user = 0; user < 4; user++) {
            all.append(", loss of ").append(user).append(' ').append(x.loss(user, 1, 3, true));
        }
        return all.append(", judged ").append(x.judge(2, 10001100L)).append(", fault ").append(x.fault()).toString();
    }

    /** What the next acts answer, and a keeping. */
    private static String goneOn(SpentPasses x) {
        StringBuilder all = new StringBuilder("gone on");
        all.append(' ').append(x.keep(0)).append(' ').append(x.hear());
        for (int user = 0; user < 3; user++) {
            all.append(' ').append(x.send(user)).append(' ').append(x.miss(user)).append(' ').append(x.attempt(user, 5))
                .append(' ').append(x.renew(user, 4, 5, 6));
        }
        return all.append(' ').append(x.widen(4)).append(' ').append(x.undo()).toString();
    }

    private static String undone(SpentPasses x) {
        StringBuilder all = new StringBuilder("undone");
        for (int i = 0; i < 15; i++) {
            all.append("; ").append(x.undo()).append(':');
            for (int what = 1; what <= 5; what++) {
                all.append(' ').append(x.count(what));
            }
            for (int user = 0; user < 4; user++) {
                for (int what : new int[] {1, 3, 4, 5}) {
                    all.append(' ').append(x.user(user, what));
                }
            }
        }
        return all.toString();
    }

    private static String seenOf(SpentPasses x) {
        StringBuilder all = new StringBuilder("seen");
        all.append(' ').append(x.which(0)).append(' ').append(x.which(1));
        for (int i = 0; i < 7; i++) {
            all.append(' ').append(x.see(0, 0, 0));
        }
        return all.append(' ').append(x.which(0)).append(' ').append(x.unsee()).toString();
    }
}
