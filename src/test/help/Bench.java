import java.io.IOException;
import java.nio.charset.StandardCharsets;
import java.nio.file.Files;
import java.nio.file.Path;
import java.util.ArrayList;
import java.util.BitSet;
import java.util.List;
import java.util.Map;
import java.util.TreeMap;
import java.util.regex.Matcher;
import java.util.regex.Pattern;

/**
 * What the tests share: how answers are asked, how texts come in, and how a test is tied to a sentence of the document.
 *
 * A test of a sentence quotes it. What is quoted must stand in the document, and a section of which every letter must be
 * quoted by some test has no sentence without one.
 */
class Bench {
    /** The checks of one sentence. */
    interface Case {
        void run();
    }

    /** Makes an object in a state that is due; it is asked for several that are the same. */
    interface Made {
        ScaleForge make();
    }

    interface Answer {
        long of(ScaleForge f);
    }

    interface Truth {
        boolean of(ScaleForge f);
    }

    /** A call by the one number of it that is looked at. */
    interface ByNumber {
        long of(ScaleForge f, int number);
    }

    private static final int MOST_TOLD = 300;
    private static final Map<String, String> SECTIONS = new TreeMap<>();
    private static final Map<String, BitSet> QUOTED = new TreeMap<>();
    private static String now = "";
    private static int sentences = 0;
    private static int checks = 0;
    private static int wrong = 0;

    // ---- sentences

    /** A sentence of 'Terms', with the promise by whose call it is shown. */
    static void terms(int promise, String quote, Case body) {
        sentence("Terms", "promise " + promise + ", by Terms: " + quote, quote, body);
    }

    /** A sentence of a promise's own text. */
    static void promise(int number, String quote, Case body) {
        sentence("Promise " + number, "promise " + number + ": " + quote, quote, body);
    }

    private static void sentence(String section, String name, String quote, Case body) {
        now = name;
        sentences++;
        quote(section, quote);
        int before = checks;
        try {
            body.run();
        } catch (RuntimeException thrown) {
            fail(thrown.toString());
        }
        if (checks == before) {
            fail("nothing is checked");
        }
        now = "";
    }

    /** For tests that go through promises without quoting them. */
    static void at(int promise) {
        now = "promise " + promise;
    }

    private static void quote(String section, String quote) {
        String text = sections().getOrDefault(section, "");
        BitSet quoted = QUOTED.computeIfAbsent(section, key -> new BitSet());
        int found = text.indexOf(quote);
        // The same words may stand there twice: the first that no test has yet.
        for (int next = found; next >= 0; next = text.indexOf(quote, next + 1)) {
            if (quoted.nextClearBit(next) < next + quote.length()) {
                found = next;
                break;
            }
        }
        if (found < 0) {
            fail("the document does not say so");
        } else {
            quoted.set(found, found + quote.length());
        }
    }

    /** Every letter of a section must be quoted by a test. */
    static void isQuotedWhole(String section) {
        String text = sections().getOrDefault(section, "");
        BitSet quoted = QUOTED.getOrDefault(section, new BitSet());
        StringBuilder left = new StringBuilder();
        for (int i = 0; i < text.length(); i++) {
            left.append(quoted.get(i) ? '|' : text.charAt(i));
        }
        now = section;
        for (String piece : left.toString().split("\\|+")) {
            if (piece.matches(".*[A-Za-z0-9].*")) {
                fail("no test has: " + piece.trim());
            }
        }
        if (text.isEmpty()) {
            fail("not in the document");
        }
        now = "";
    }

    static void areQuotedWhole(int first, int last) {
        for (int number = first; number <= last; number++) {
            isQuotedWhole("Promise " + number);
        }
    }

    private static Map<String, String> sections() {
        if (SECTIONS.isEmpty()) {
            try {
                cutDocument(Files.readString(Path.of("../shared/DOC.md"), StandardCharsets.UTF_8));
            } catch (IOException thrown) {
                throw new IllegalStateException(thrown);
            }
        }
        return SECTIONS;
    }

    private static void cutDocument(String document) {
        Matcher head = Pattern.compile("(?m)^## (Terms|Promise \\d+)(.*)$").matcher(document);
        while (head.find()) {
            int end = document.indexOf("\n## ", head.end());
            String text = document.substring(head.end(), end < 0 ? document.length() : end);
            // What the interface says ahead of calls is their order alone.
            text = text.replaceAll("(?m)^Ahead of the calls .*$", "").replaceAll("(?m)^```\\w*$", "");
            text = text.replaceAll("==== \\d\\.", "").replaceAll("^\\s*`[^`]*`:", "");
            SECTIONS.put(head.group(1), text.replaceAll("\\s+", " ").trim());
        }
    }

    // ---- checks

    private static void fail(String why) {
        wrong++;
        // One fault may show in a million checks: the first of them say enough.
        if (wrong <= MOST_TOLD) {
            System.out.println(now + "\n    " + why);
        }
    }

    static void is(long got, long due) {
        checks++;
        if (got != due) {
            fail("line " + line() + ": " + got + ", due is " + due);
        }
    }

    static void is(boolean got, boolean due) {
        is(got ? 1 : 0, due ? 1 : 0);
    }

    /** The line of the test that asked, not that of a helper. */
    private static String line() {
        for (StackTraceElement frame : new Throwable().getStackTrace()) {
            if (!frame.getClassName().startsWith("Bench")) {
                return String.valueOf(frame.getLineNumber());
            }
        }
        return "?";
    }

    /** An answer with STATUS 0. */
    static void yes(ScaleForge f, long got, long due) {
        is(got, due);
        is(f.status(), 0);
    }

    static void yes(ScaleForge f, boolean got) {
        is(got, true);
        is(f.status(), 0);
    }

    /** NONE with a STATUS. */
    static void no(ScaleForge f, long got, int status) {
        is(got, -1);
        is(f.status(), status);
    }

    static void no(ScaleForge f, boolean got, int status) {
        is(got, false);
        is(f.status(), status);
    }

    static void fraction(ScaleForge f, boolean got, long top, long bottom) {
        is(got, true);
        is(f.status(), 0);
        is(f.top(), top);
        is(f.bottom(), bottom);
    }

    /** What a call that tells true or false answers, so that false is like NONE. */
    static long truth(boolean yes) {
        return yes ? 1 : -1;
    }

    /** A number by its least and its most, which have STATUS 0, and all that are beyond them. */
    static void bounds(Made made, int least, int most, int status, ByNumber call) {
        for (int number : new int[] {least, most}) {
            ScaleForge f = made.make();
            call.of(f, number);
            is(f.status(), 0);
        }
        for (int number : new int[] {least - 1, most + 1, Integer.MIN_VALUE, Integer.MAX_VALUE}) {
            ScaleForge f = made.make();
            no(f, call.of(f, number), status);
        }
    }

    /** A call that gives NONE with a STATUS, and after which all is as it is without it. */
    static void refuses(Made made, Answer call, int status) {
        ScaleForge asked = made.make();
        no(asked, call.of(asked), status);
        same(asked, made.make());
    }

    static void denies(Made made, Truth call, int status) {
        ScaleForge asked = made.make();
        no(asked, call.of(asked), status);
        same(asked, made.make());
    }

    static void same(ScaleForge one, ScaleForge other) {
        List<Long> first = faultOf(one);
        List<Long> second = faultOf(other);
        first.addAll(allButTexts(one));
        second.addAll(allButTexts(other));
        first.addAll(tapeOf(one));
        second.addAll(tapeOf(other));
        areSame(first, second);
    }

    /** Same but for the tape and what fault() tells. */
    static void sameButTexts(ScaleForge one, ScaleForge other) {
        areSame(allButTexts(one), allButTexts(other));
    }

    private static void areSame(List<Long> first, List<Long> second) {
        checks++;
        if (!first.equals(second)) {
            fail("line " + line() + ": not the same: " + first + "\n    due is " + second);
        }
    }

    private static List<Long> faultOf(ScaleForge f) {
        return new ArrayList<>(List.of((long) f.fault(0), (long) f.fault(1)));
    }

    /** The SCALE that the tape would be, from which it is empty. */
    private static List<Long> tapeOf(ScaleForge f) {
        List<Long> found = new ArrayList<>();
        int fed = f.feed(0, 0, 0, 0, 0);
        found.add((long) fed);
        found.add((long) f.scale(fed < 0 ? 900 : fed - 20));
        found.addAll(faultOf(f));
        scaleOf(f, found);
        return found;
    }

    /** All that calls tell of an object (but STATUS, texts), in some 200 calls; it is not as it was then. */
    private static List<Long> allButTexts(ScaleForge f) {
        List<Long> found = new ArrayList<>();
        found.add(f.top());
        found.add(f.bottom());
        for (int what = 0; what < 5; what++) {
            found.add((long) f.lived(what));
        }
        for (int k = 0; k == 0 || k < 60 && f.status() == 0; k++) {
            found.add((long) f.logAt(k));
        }
        scaleOf(f, found);
        for (int tray = 0; tray < 4; tray++) {
            trayOf(f, tray, found);
        }
        found.add((long) f.live(5));
        scaleOf(f, found);
        int left = f.undo();
        for (int i = 0; i < 4 && left >= 0; i++) {
            found.add((long) left);
            scaleOf(f, found);
            found.add((long) f.live(5));
            left = f.undo();
        }
        return found;
    }

    private static void scaleOf(ScaleForge f, List<Long> found) {
        for (int what = 0; what < 12; what++) {
            found.add((long) f.told(what));
        }
        for (int k = 0; k == 0 || k < 61 && f.status() == 0; k++) {
            found.add((long) f.soundAt(k));
        }
        for (int k = 0; k == 0 || k < 13 && f.status() == 0; k++) {
            found.add((long) f.recent(k));
        }
    }

    private static void trayOf(ScaleForge f, int tray, List<Long> found) {
        for (int place = 0; place == 0 || place < 61 && f.status() == 0; place++) {
            found.add(f.read(tray, place));
        }
        found.add((long) f.status());
        // Its sort is seen by what is cut.
        f.write(tray, 0, 0x0123456789ABCDEFL);
        found.add(f.read(tray, 0));
    }

    // ---- texts

    /** What is left of the last twenty bytes is no TOKEN, so that a text which is read too far has a FAULT. */
    static int feed(ScaleForge f, String text) {
        byte[] bytes = text.getBytes(StandardCharsets.ISO_8859_1);
        for (int i = 0; i < bytes.length; i += 20) {
            int[] five = new int[5];
            for (int j = 0; j < 20; j++) {
                int b = i + j < bytes.length ? bytes[i + j] & 255 : 'Z';
                five[j / 4] = five[j / 4] << 8 | b;
            }
            f.feed(five[0], five[1], five[2], five[3], five[4]);
        }
        return bytes.length;
    }

    static int scale(ScaleForge f, String text) {
        return f.scale(feed(f, text));
    }

    static int studies(ScaleForge f, String text) {
        return f.studies(feed(f, text));
    }

    static ScaleForge of(String text) {
        ScaleForge f = new ScaleForge();
        if (scale(f, text) == -1) {
            throw new IllegalStateException("not taken: " + text + " " + f.fault(0) + " at " + f.fault(1));
        }
        return f;
    }

    static ScaleForge of(String scale, String studies) {
        ScaleForge f = of(scale);
        if (studies(f, studies) == -1) {
            throw new IllegalStateException("not taken: " + studies + " " + f.fault(0) + " at " + f.fault(1));
        }
        return f;
    }

    static void scaleFault(String text, int kind, int place) {
        cutFault(text, text.length(), kind, place);
    }

    /** Of what is on the tape only the first bytes are the text. */
    static void cutFault(String tape, int length, int kind, int place) {
        ScaleForge f = new ScaleForge();
        f.rule(1, 19);
        feed(f, tape);
        no(f, f.scale(length), 9);
        is(f.fault(0), kind);
        is(f.fault(1), place);
        is(f.told(1), 19);
    }

    static void studyFault(String text, int kind, int place) {
        ScaleForge f = new ScaleForge();
        no(f, studies(f, text), 9);
        is(f.fault(0), kind);
        is(f.fault(1), place);
        no(f, f.live(1), 6);
    }

    /** A text with blanks between two parts of it, so that it is so many bytes long. */
    static String padded(String first, String last, int length) {
        return first + " ".repeat(length - first.length() - last.length()) + last;
    }

    // ---- the end

    static void finish() {
        System.out.println((sentences > 0 ? sentences + " sentences, " : "") + checks + " checks, " + wrong + " wrong");
        if (wrong != 0) {
            System.exit(1);
        }
    }
}
