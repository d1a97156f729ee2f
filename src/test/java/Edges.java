import java.io.IOException;
import java.nio.file.Files;
import java.nio.file.Path;

/**
 * What the tests by the document's sentences share: says() opens a sentence, due() holds the class against it.
 * Each sentence must stand in the document, under its promise or in the Terms, and must be held by something;
 * and what stands in the document there must be opened by some says().
 */
class Edges {
    static final String TWO = "gorge 3 by 2;green 1;flock a bride at 0 0 size 2;flock b groom at 2 0 size 3;"
            + "evenings 2;draw 29;rain 5 of 4;";
    static final int LEAST = Integer.MIN_VALUE;
    static final int MOST = Integer.MAX_VALUE;
    private static final int PROMISES = 41;
    private static final String[] SECTIONS = new String[PROMISES + 1];
    private static final boolean[][] OPENED = new boolean[PROMISES + 1][];

    private static boolean hasDocument = false;
    private static int promise = 0;
    private static String sentence = "";
    private static int heldBy = 1;
    private static int sentences = 0;
    private static int asked = 0;
    private static int wrong = 0;

    Edges() { }

    /**
     * The Terms are section 0. What a promise's own section says ahead of its first colon is the call.
     * Without a document only the answers are looked at, not what the tests say that the document says.
     */
    static void read(Path path) throws IOException {
        hasDocument = Files.isRegularFile(path);
        if (!hasDocument) {
            System.out.println("edges: no document " + path + ", its sentences are not looked for");
            return;
        }
        String all = Files.readString(path).replaceAll("\\s+", " ");
        put(0, between(all, "## Terms ", "The constants:"));
        for (int n = 1; n <= PROMISES; n++) {
            String next = n < PROMISES ? "## Promise " + (n + 1) + ":" : "## Not promised";
            String whole = between(all, "## Promise " + n + ":", next);
            put(n, whole.substring(whole.indexOf("`: ") + 3));
        }
    }

    private static String between(String all, String from, String to) {
        int start = all.indexOf(from);
        int end = all.indexOf(to, start);
        if (start < 0 || end < 0) {
            throw new IllegalStateException("the document has no part from " + from + " to " + to);
        }
        return all.substring(start + from.length(), end);
    }

    private static void put(int section, String text) {
        SECTIONS[section] = text;
        OPENED[section] = new boolean[text.length()];
    }

    static void says(int number, String words) {
        mustBeHeld();
        promise = number;
        sentence = words;
        heldBy = 0;
        sentences++;
        if (hasDocument && !open(number, words) & !open(0, words)) {
            fail("the document does not say that there");
        }
    }

    private static boolean open(int section, String words) {
        boolean is = false;
        String text = SECTIONS[section];
        for (int at = text.indexOf(words); at >= 0; at = text.indexOf(words, at + 1)) {
            is = true;
            for (int i = at; i < at + words.length(); i++) {
                OPENED[section][i] = true;
            }
        }
        return is;
    }

    private static void mustBeHeld() {
        if (heldBy == 0) {
            fail("nothing holds it");
        }
    }

    private static void fail(String how) {
        wrong++;
        StringBuilder where = new StringBuilder();
        for (StackTraceElement e : new Throwable().getStackTrace()) {
            if (!e.getClassName().equals("Edges") && e.getClassName().startsWith("Edges") && where.length() == 0) {
                where.append(e.getFileName()).append(':').append(e.getLineNumber());
            }
        }
        System.out.println("promise " + promise + ", \"" + sentence + "\": " + how + " (" + where + ")");
    }

    static void due(long want, long got) {
        dueOf("", want, got);
    }

    private static void dueOf(String text, long want, long got) {
        asked++;
        heldBy++;
        if (got != want) {
            fail("answered " + got + ", due is " + want + (text.isEmpty() ? "" : ", of " + text));
        }
    }

    static void due(boolean want, boolean got) {
        due(want ? 1 : 0, got ? 1 : 0);
    }

    static void same(String want, String got) {
        asked++;
        heldBy++;
        if (!got.equals(want)) {
            fail("all is " + got + ", due is " + want);
        }
    }

    /** All that can be asked of an object without laying anything anew (some 60 calls for TWO). */
    static String all(GoatMatches x) {
        StringBuilder s = new StringBuilder();
        for (int i = 0; i < 15; i++) {
            s.append(x.about(i)).append(i < 14 ? "," : " faults ");
        }
        s.append(x.fault(0)).append(',').append(x.fault(1)).append(" flocks ");
        for (int f = 0; f < x.about(0); f++) {
            for (int what = 0; what < 6; what++) {
                s.append(x.flock(f, what)).append(',');
            }
            for (int o = 0; o < f; o++) {
                s.append(x.mixed(f, o)).append(';');
            }
        }
        s.append(" cells ");
        for (int c = 0; c < x.about(1) * x.about(2); c++) {
            s.append(x.ground(c, 0)).append(',').append(x.ground(c, 1)).append(';');
        }
        s.append(" lying ");
        for (int i = 0; i < x.about(14); i++) {
            s.append(x.lies(i)).append(',');
        }
        return s.append(" ledges ").append(x.ledges(x.about(11))).toString();
    }

    /** The sign ^ stands where the fault is, and is not of the text. */
    static void faulty(int which, String marked) {
        faultyAt(which, marked.indexOf('^'), marked.replace("^", ""));
    }

    static void faultyAt(int which, int place, String text) {
        GoatMatches x = new GoatMatches();
        Texts.tape(x, text);
        dueOf(text, -1, x.gorge());
        dueOf(text, which, x.fault(0));
        dueOf(text, place, x.fault(1));
    }

    static GoatMatches sound(int flocks, String text) {
        GoatMatches x = new GoatMatches();
        Texts.tape(x, text);
        dueOf(text, flocks, x.gorge());
        dueOf(text, 0, x.fault(0));
        dueOf(text, -1, x.fault(1));
        return x;
    }

    static void lie(GoatMatches x, int... want) {
        due(want.length, x.about(14));
        for (int i = 0; i < want.length; i++) {
            due(want[i], x.lies(i));
        }
    }

    static void days(GoatMatches x, int n) {
        for (int i = 0; i < n; i++) {
            x.day();
        }
    }

    /** How many are wrong, what is not opened among them. */
    static int end() {
        mustBeHeld();
        for (int section = 0; section <= PROMISES && hasDocument; section++) {
            StringBuilder left = new StringBuilder();
            for (int i = 0; i < SECTIONS[section].length(); i++) {
                left.append(OPENED[section][i] ? ' ' : SECTIONS[section].charAt(i));
            }
            for (String part : left.toString().split(" {2,}")) {
                if (part.matches(".*[A-Za-z0-9].*") && !part.matches("[ `]*(text|==== [234]\\.)?[ `]*")) {
                    wrong++;
                    System.out.println((section == 0 ? "the Terms" : "promise " + section) + ": no test of " + part);
                }
            }
        }
        System.out.println("edges: " + sentences + " sentences, " + asked + " asked, " + wrong + " wrong");
        return wrong;
    }
}
