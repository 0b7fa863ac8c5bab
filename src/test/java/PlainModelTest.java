import java.math.BigInteger;
import java.util.ArrayList;
import java.util.Arrays;
import java.util.Collections;
import java.util.HashSet;
import java.util.List;
import java.util.Random;
import java.util.Set;
import java.util.TreeMap;
import java.util.TreeSet;

/**
 * Random runs of calls, each asked of ScaleForge and of a plain second program that follows the document's words
 * with lists and sets, and without regard to speed. The seeds are fixed, so that each run is the same.
 */
public final class PlainModelTest {
    private static final int RUNS = 1500;
    private static final int CALLS = 512;
    private static final String[] CALL_NAMES = {"tray", "write", "read", "pour", "feed", "scale", "studies", "fault",
        "told", "chain", "tone", "degree", "step", "span", "sizeAt", "sizeMany", "rule", "press", "lift", "sift",
        "glide", "flip", "soundAt", "recent", "variety", "myhill", "lengths", "lengthAt", "modes", "alike",
        "brightness", "modeBy", "nominal", "sharps", "named", "simplest", "names", "keyTone", "keys", "keyOf",
        "keyTones", "nearest", "fit", "bestRoot", "guesses", "guessAt", "ask", "common", "way", "wayAt", "shapes",
        "convergents", "convergent", "ratio", "share", "mistuned", "copyScale", "steps", "live", "lived", "logAt",
        "mean", "mark", "undo"};

    public static void main(String[] args) {
        TreeMap<String, Integer> seen = new TreeMap<>();
        for (int seed = 1; seed <= RUNS; seed++) {
            if (!new Run(seed, seen).goes()) {
                System.exit(1);
            }
        }
        if (args.length > 0) {
            System.out.println(seen);
        }
        for (String name : CALL_NAMES) {
            if (!name.equals("feed") && !name.equals("fault") && !seen.containsKey(name + " 0")) {
                System.out.println("never asked with STATUS 0: " + name);
                System.exit(1);
            }
        }
        System.out.println(RUNS + " runs of " + CALLS + " calls, all answers alike");
    }

    /** One run of calls on both programs. */
    private static final class Run {
        private final int seed;
        private final Random random;
        private final TreeMap<String, Integer> seen;
        private final ScaleForge forge = new ScaleForge();
        private final Plain plain = new Plain();
        private final List<String> told = new ArrayList<>();
        private int calls = 0;
        private boolean good = true;

        Run(int seed, TreeMap<String, Integer> seen) {
            this.seed = seed;
            this.random = new Random(seed);
            this.seen = seen;
        }

        boolean goes() {
            // In two runs of three TRAYS are there from the first, and few SCALES end what has become of one.
            boolean isLong = seed % 3 != 0;
            for (int tray = 0; tray < 4 && isLong; tray++) {
                ask("tray", of(tray, random.nextInt(4), 15 + random.nextInt(46)));
            }
            while (calls < CALLS && good) {
                int what = random.nextInt(isLong ? 300 : 100);
                String name = CALL_NAMES[random.nextInt(CALL_NAMES.length)];
                if (what < 3) {
                    text(true);
                } else if (what < 8) {
                    text(false);
                } else if (isLong && name.equals("scale")) {
                    for (int i = 0; i < 5; i++) {
                        ask("press", of(tone()));
                    }
                } else {
                    ask(name, arguments(name));
                }
            }
            return good;
        }

        private int near(int least, int most) {
            int way = random.nextInt(30);
            if (way == 0) {
                return least - 1 - random.nextInt(2);
            }
            if (way == 1) {
                return most + 1 + random.nextInt(2);
            }
            if (way == 2) {
                return random.nextBoolean() ? Integer.MIN_VALUE : Integer.MAX_VALUE;
            }
            return least + random.nextInt(Math.max(1, most - least + 1));
        }

        private int tone() {
            return near(0, plain.period() - 1);
        }

        private int degreeNow() {
            return near(0, plain.degrees().size() - 1);
        }

        private long[] arguments(String name) {
            switch (name) {
                case "tray": return of(near(0, 3), near(0, 3), random.nextInt(3) == 0 ? near(0, 60) : near(20, 60));
                case "write": return of(near(0, 3), near(0, 30), random.nextInt(9) == 0 ? random.nextLong() : tone());
                case "read": return of(near(0, 3), near(0, 30));
                case "pour": return of(near(0, 3), near(0, 20), near(0, 3), near(0, 20), near(0, 20));
                case "feed": return of(random.nextInt(), random.nextInt(), 0, 1, 2);
                case "scale": case "studies": return of(random.nextBoolean() ? 0 : near(-1, plain.tape.size() + 1));
                case "fault": return of(near(0, 1));
                case "told": return of(near(0, 11));
                case "chain": case "nominal": case "sharps": return of(near(-60, 60));
                case "tone": case "step": case "brightness": case "modeBy": return of(degreeNow());
                case "degree": case "lift": case "names": case "keys": case "nearest": case "common":
                    return of(tone());
                case "press": return of(tone());
                case "span": return of(degreeNow(), near(0, 24));
                case "sizeAt": case "sizeMany": case "share": return of(near(0, 3));
                case "rule": return rule();
                case "glide": return of(near(0, 59));
                case "soundAt": case "recent": return of(near(0, random.nextBoolean() ? 2 : 12));
                case "guessAt": case "lengthAt": return of(near(0, 12));
                case "variety": return of(near(1, 24));
                case "alike": return of(degreeNow(), degreeNow());
                case "named": return of(near(0, plain.parts[6] - 1), near(-9, 9));
                case "simplest": return of(tone(), near(0, 2));
                case "keyTone": return of(near(0, 11), near(0, 5));
                case "keyOf": return of(tone(), near(0, 1));
                case "wayAt": return of(near(0, random.nextBoolean() ? 2 : 7));
                case "shapes": return of(near(1, 3));
                case "convergent": return of(near(0, 6));
                case "mistuned": return of(near(0, 12), near(0, 12));
                case "copyScale": return of(near(0, 3));
                case "steps": return of(near(0, 3), near(0, 30));
                case "live": return of(near(0, 9999));
                case "lived": return of(near(0, 4));
                case "logAt": return of(random.nextInt(4) == 0 ? near(50, 62) : near(0, 8));
                case "mean": return of(random.nextInt(4) == 0 ? near(9975, 9999) : near(0, 9999), near(1, 20));
                default: return of();
            }
        }

        private long[] rule() {
            int what = near(0, 8);
            int[] most = {16, 60, plain.period() - 1, 24, 23, plain.period() - 1, 7, plain.period() - 1,
                plain.period() - 1};
            return of(what, what >= 0 && what < 9 ? near(0, most[what]) : 1);
        }

        private static long[] of(long... numbers) {
            return numbers;
        }

        private void text(boolean isScale) {
            StringBuilder text = new StringBuilder();
            if (isScale) {
                scaleText(text);
            } else {
                studySteps(text, 0, 1 + random.nextInt(random.nextInt(4) == 0 ? 14 : 6));
            }
            if (random.nextInt(3) == 0) {
                spoil(text);
            }
            text.setLength(Math.min(text.length(), isScale ? 900 : 301));
            for (int at = 0; at < text.length(); at += 20) {
                long[] five = new long[5];
                for (int i = 0; i < 20; i++) {
                    five[i / 4] = (int) five[i / 4] << 8 | (at + i < text.length() ? text.charAt(at + i) & 255 : 32);
                }
                ask("feed", five);
            }
            boolean cut = random.nextInt(20) == 0;
            ask(isScale ? "scale" : "studies", of(cut ? random.nextInt(text.length() + 1) : text.length()));
            ask("fault", of(0));
            ask("fault", of(1));
            if (!isScale) {
                ask("live", of(random.nextInt(10000)));
                for (int what = 0; what < 5; what++) {
                    ask("lived", of(what));
                }
                for (int k = 0; k < 3; k++) {
                    ask("logAt", of(k));
                    ask("recent", of(k));
                }
            }
        }

        private void scaleText(StringBuilder text) {
            String[] words = {"odds", "period", "generator", "length", "down", "root", "nominals", "right", "up"};
            int period = random.nextInt(3) == 0 ? 12 : 2 + random.nextInt(59);
            int[] most = {16, period, period - 1, 24, 23, period - 1, 7, period - 1, period - 1};
            List<Integer> order = new ArrayList<>(List.of(0, 2, 3, 4, 5, 6, 7, 8));
            Collections.shuffle(order, random);
            if (period != 12 || random.nextBoolean()) {
                order.add(random.nextInt(20) == 0 ? random.nextInt(8) : 0, 1);
            }
            for (int what : order) {
                if (random.nextInt(3) != 0 || what == 1) {
                    int much = what == 1 ? period : random.nextInt(most[what] + 1);
                    much += random.nextInt(60) == 0 ? 1 : 0;
                    text.append(words[what]).append(blank()).append(much).append(blank()).append(';').append(blank());
                }
            }
            while (random.nextInt(2) == 0) {
                text.append("sounds");
                int many = random.nextInt(4);
                for (int i = 0; i < many; i++) {
                    text.append(' ').append(random.nextInt(period));
                }
                text.append(';');
            }
        }

        private String blank() {
            String[] blanks = {"", " ", "\n", " \n "};
            return blanks[random.nextInt(blanks.length)];
        }

        private void studySteps(StringBuilder text, int depth, int many) {
            for (int i = 0; i < many; i++) {
                int most = random.nextInt(12) == 0 ? 61 : plain.period();
                int tone = random.nextInt(most);
                int kind = random.nextInt(depth < 3 ? 12 : 6);
                switch (kind) {
                    case 0: text.append("press ").append(tone).append(';'); break;
                    case 1: text.append("lift ").append(tone).append(';'); break;
                    case 2: text.append("root ").append(tone).append(blank()).append(';'); break;
                    case 3: case 4: text.append(blank()).append("any;"); break;
                    case 5: text.append(random.nextInt(3) == 0 ? "stop;" : "leave;"); break;
                    default:
                        text.append(opening(kind, tone));
                        studySteps(text, random.nextInt(40) == 0 ? 0 : depth + 1, random.nextInt(4));
                        text.append("end;");
                        break;
                }
            }
        }

        private String opening(int kind, int tone) {
            if (kind == 6 && random.nextInt(4) == 0) {
                return "loop 70;hold " + tone + ";end;";
            }
            if (kind < 8) {
                return "hold" + blank() + tone + ";";
            }
            if (kind < 10) {
                return "loop " + (random.nextInt(3) == 0 ? random.nextInt(101) : 1 + random.nextInt(5)) + ";";
            }
            String[] tests = {"sounds " + tone, "degree " + tone, "fit <" + random.nextInt(5),
                "fit > " + random.nextInt(5), "fit=" + random.nextInt(5)};
            return "when " + tests[random.nextInt(tests.length)] + ";";
        }

        private void spoil(StringBuilder text) {
            String[] bits = {";", "<", "=", "5", "99999", "period", "up", "end", "end;", "any", "A", "\u00ff", "\t", " ",
                "hold 1;", "sounds 1;", "fit", "61", "0"};
            int at = random.nextInt(text.length() + 1);
            if (random.nextBoolean() || at == text.length()) {
                text.insert(at, bits[random.nextInt(bits.length)]);
            } else {
                text.delete(at, Math.min(text.length(), at + 1 + random.nextInt(3)));
            }
        }

        private void ask(String name, long[] a) {
            if (calls >= CALLS || !good) {
                return;
            }
            calls++;
            long got = Calls.forge(forge, name, a);
            long due = Calls.plain(plain, name, a);
            told.add(name + Arrays.toString(a) + " = " + got);
            boolean alike = got == due && forge.status() == plain.status && forge.top() == plain.top
                && forge.bottom() == plain.bottom;
            seen.merge(name + " " + plain.status, 1, Integer::sum);
            if (!alike) {
                good = false;
                System.out.println("run " + seed + ":");
                for (String line : told) {
                    System.out.println("  " + line);
                }
                System.out.println("due is " + due + ", STATUS " + plain.status + " and " + plain.top + " by "
                    + plain.bottom + "; got STATUS " + forge.status() + " and " + forge.top() + " by "
                    + forge.bottom());
            }
        }
    }

    /** The same call on either program; a boolean counts 1 or 0. */
    private static final class Calls {
        static int n(long[] a, int i) {
            return i < a.length ? (int) a[i] : 0;
        }

        static long b(boolean yes) {
            return yes ? 1 : 0;
        }

        static long forge(ScaleForge f, String name, long[] a) {
            int x = n(a, 0);
            int y = n(a, 1);
            switch (name) {
                case "tray": return b(f.tray(x, y, n(a, 2)));
                case "write": return b(f.write(x, y, a[2]));
                case "read": return f.read(x, y);
                case "pour": return b(f.pour(x, y, n(a, 2), n(a, 3), n(a, 4)));
                case "feed": return f.feed(x, y, n(a, 2), n(a, 3), n(a, 4));
                case "scale": return f.scale(x);
                case "studies": return f.studies(x);
                case "fault": return f.fault(x);
                case "told": return f.told(x);
                case "chain": return f.chain(x);
                case "tone": return f.tone(x);
                case "degree": return f.degree(x);
                case "step": return f.step(x);
                case "span": return f.span(x, y);
                case "sizeAt": return f.sizeAt(x);
                case "sizeMany": return f.sizeMany(x);
                case "rule": return f.rule(x, y);
                case "press": return f.press(x);
                case "lift": return f.lift(x);
                case "sift": return f.sift();
                case "glide": return f.glide(x);
                case "flip": return f.flip();
                case "soundAt": return f.soundAt(x);
                case "recent": return f.recent(x);
                case "variety": return f.variety(x);
                case "myhill": return f.myhill();
                case "lengths": return f.lengths();
                case "lengthAt": return f.lengthAt(x);
                case "modes": return f.modes();
                case "alike": return f.alike(x, y);
                case "brightness": return f.brightness(x);
                case "modeBy": return f.modeBy(x);
                case "nominal": return f.nominal(x);
                case "sharps": return f.sharps(x);
                case "named": return f.named(x, y);
                case "simplest": return f.simplest(x, y);
                case "names": return f.names(x);
                case "keyTone": return f.keyTone(x, y);
                case "keys": return f.keys(x);
                case "keyOf": return f.keyOf(x, y);
                case "keyTones": return f.keyTones();
                case "nearest": return f.nearest(x);
                case "fit": return f.fit();
                case "bestRoot": return f.bestRoot();
                case "guesses": return f.guesses();
                case "guessAt": return f.guessAt(x);
                case "ask": return f.ask();
                case "common": return f.common(x);
                case "way": return f.way();
                case "wayAt": return f.wayAt(x);
                case "shapes": return f.shapes(x);
                case "convergents": return f.convergents();
                case "convergent": return b(f.convergent(x));
                case "ratio": return b(f.ratio());
                case "share": return b(f.share(x));
                case "mistuned": return b(f.mistuned(x, y));
                case "copyScale": return f.copyScale(x);
                case "steps": return f.steps(x, y);
                case "live": return f.live(x);
                case "lived": return f.lived(x);
                case "logAt": return f.logAt(x);
                case "mean": return b(f.mean(x, y));
                case "mark": return f.mark();
                case "undo": return f.undo();
                default: throw new IllegalStateException(name);
            }
        }

        static long plain(Plain p, String name, long[] a) {
            if (name.equals("feed")) {
                return p.feed(a);
            }
            if (name.equals("fault")) {
                return n(a, 0) == 0 ? p.fault : n(a, 0) == 1 ? p.faultPlace : -1;
            }
            boolean isTruth = Set.of("tray", "write", "pour", "convergent", "ratio", "share", "mistuned", "mean")
                .contains(name);
            try {
                long answer = p.answer(name, a, n(a, 0), n(a, 1));
                p.status = 0;
                return answer;
            } catch (Trouble trouble) {
                p.status = trouble.status;
                return isTruth ? 0 : -1;
            }
        }
    }

    private static final class Trouble extends RuntimeException {
        private static final long serialVersionUID = 1L;
        final int status;

        Trouble(int status) {
            super(null, null, false, false);
            this.status = status;
        }
    }

    private static final class Fault extends RuntimeException {
        private static final long serialVersionUID = 1L;
        final int kind;
        final int place;

        Fault(int kind, int place) {
            super(null, null, false, false);
            this.kind = kind;
            this.place = place;
        }
    }

    /** leave (stop: all), thrown to where it ends. */
    private static final class Leaving extends RuntimeException {
        private static final long serialVersionUID = 1L;
        final boolean all;

        Leaving(boolean all) {
            super(null, null, false, false);
            this.all = all;
        }
    }

    private record Token(String text, int place) {
        boolean isNumber() {
            return text.matches("[0-9]+");
        }
    }

    private record Step(String word, String test, int number, List<Step> within) {
    }

    /** The text as TOKENS; the one that is none throws when it is come to. */
    private static final class Text {
        private final String text;
        private int at = 0;

        Text(String text) {
            this.text = text;
        }

        Token next() {
            Token token = peek();
            at = token.place + token.text.length();
            return token;
        }

        Token peek() {
            int place = at;
            while (place < text.length() && " \n".indexOf(text.charAt(place)) >= 0) {
                place++;
            }
            if (place == text.length()) {
                return new Token("", place);
            }
            String rest = text.substring(place);
            for (String shape : new String[] {"[a-z]+", "[0-9]+", "[;<>=]"}) {
                java.util.regex.Matcher matcher = java.util.regex.Pattern.compile(shape).matcher(rest);
                if (matcher.lookingAt() && !(shape.startsWith("[0") && matcher.end() > 4)) {
                    return new Token(matcher.group(), place);
                }
            }
            throw new Fault(1, place);
        }

        int number(int least, int most) {
            Token token = next();
            if (!token.isNumber()) {
                throw new Fault(2, token.place);
            }
            int number = Integer.parseInt(token.text);
            if (number < least || number > most) {
                throw new Fault(4, token.place);
            }
            return number;
        }

        void sign(String sign) {
            Token token = next();
            if (!token.text.equals(sign)) {
                throw new Fault(2, token.place);
            }
        }
    }

    /** The document word by word. */
    private static final class Plain {
        int status = 0;
        long top = 0;
        long bottom = 1;
        int fault = -1;
        int faultPlace = -1;
        final List<Integer> tape = new ArrayList<>();
        private final int[] traySort = new int[4];
        private final long[][] trays = new long[4][];
        int[] parts = {4, 12, 7, 7, 0, 0, 7, 2, 1};
        private TreeSet<Integer> sounds = new TreeSet<>();
        private List<Integer> recent = new ArrayList<>();
        private List<Step> studies = null;
        private final List<Object[]> marks = new ArrayList<>();
        // Of live().
        private int draws;
        private int done;
        private int missed;
        private int pressed;
        private int lifted;
        private int cut;
        private List<Integer> log = new ArrayList<>();
        private int[] lived = null;
        private List<Integer> livedLog = null;

        int period() {
            return parts[1];
        }

        int fold(int number) {
            int folded = number;
            while (folded < 0) {
                folded += period();
            }
            while (folded >= period()) {
                folded -= period();
            }
            return folded;
        }

        int chain(int k, int generator, int root) {
            return fold(root + (k - parts[4]) * generator);
        }

        TreeSet<Integer> tonesBy(int generator, int root, int length) {
            TreeSet<Integer> tones = new TreeSet<>();
            for (int k = 0; k < length; k++) {
                tones.add(chain(k, generator, root));
            }
            return tones;
        }

        List<Integer> degrees() {
            return new ArrayList<>(tonesBy(parts[2], parts[5], parts[3]));
        }

        List<Integer> stepsOf(List<Integer> tones) {
            List<Integer> steps = new ArrayList<>();
            for (int d = 0; d < tones.size(); d++) {
                int next = tones.get(d + 1 < tones.size() ? d + 1 : 0);
                steps.add(tones.size() == 1 ? period() : fold(next - tones.get(d)));
            }
            return steps;
        }

        int span(int degree, int n) {
            List<Integer> steps = stepsOf(degrees());
            int together = 0;
            for (int i = 0; i < n; i++) {
                together += steps.get((degree + i) % steps.size());
            }
            return together;
        }

        List<Integer> sizes() {
            return new ArrayList<>(new TreeSet<>(stepsOf(degrees())));
        }

        int variety(int n) {
            Set<Integer> unlike = new HashSet<>();
            for (int d = 0; d < degrees().size(); d++) {
                unlike.add(span(d, n));
            }
            return unlike.size();
        }

        List<Integer> wellFormed() {
            List<Integer> lengths = new ArrayList<>();
            for (int length = 2; length <= 24; length++) {
                List<Integer> tones = new ArrayList<>(tonesBy(parts[2], parts[5], length));
                if (tones.size() == length && new HashSet<>(stepsOf(tones)).size() <= 2) {
                    lengths.add(length);
                }
            }
            return lengths;
        }

        List<Integer> mode(int degree) {
            List<Integer> row = new ArrayList<>(stepsOf(degrees()));
            Collections.rotate(row, -degree);
            return row;
        }

        int brightness(int degree) {
            int together = 0;
            for (int n = 1; n < degrees().size(); n++) {
                together += span(degree, n);
            }
            return together;
        }

        int fit() {
            Set<Integer> both = new HashSet<>(sounds);
            both.retainAll(degrees());
            return both.size();
        }

        boolean isGuess(int generator, Set<Integer> sounding) {
            for (int root = 0; root < period(); root++) {
                if (tonesBy(generator, root, parts[3]).containsAll(sounding)) {
                    return true;
                }
            }
            return false;
        }

        List<Integer> guesses() {
            List<Integer> found = new ArrayList<>();
            for (int generator = 0; generator < period(); generator++) {
                if (isGuess(generator, sounds)) {
                    found.add(generator);
                }
            }
            return found;
        }

        int ask() {
            List<Integer> all = guesses();
            if (sounds.size() == period() || all.size() < 2) {
                throw new Trouble(6);
            }
            int best = -1;
            int fewest = Integer.MAX_VALUE;
            for (int tone = 0; tone < period(); tone++) {
                if (!sounds.contains(tone)) {
                    Set<Integer> more = new HashSet<>(sounds);
                    more.add(tone);
                    int stay = 0;
                    for (int generator : all) {
                        stay += isGuess(generator, more) ? 1 : 0;
                    }
                    int most = Math.max(stay, all.size() - stay);
                    if (most < fewest) {
                        fewest = most;
                        best = tone;
                    }
                }
            }
            return best;
        }

        /** All rows in the order of TONES; the first of the shortest stays. */
        private List<Integer> bestRow;
        private int bestFar;

        void rows(List<Integer> row, int far) {
            if (row.size() == sounds.size()) {
                if (bestRow == null || far < bestFar) {
                    bestRow = new ArrayList<>(row);
                    bestFar = far;
                }
                return;
            }
            for (int tone : sounds) {
                if (row.isEmpty() ? tone == sounds.first() : !row.contains(tone)) {
                    int more = 0;
                    if (!row.isEmpty()) {
                        int last = row.get(row.size() - 1);
                        more = Math.min(fold(tone - last), fold(last - tone));
                    }
                    row.add(tone);
                    rows(row, far + more);
                    row.remove(row.size() - 1);
                }
            }
        }

        List<Integer> way() {
            check(sounds.size() > 7, 7);
            bestRow = null;
            bestFar = 0;
            rows(new ArrayList<>(), 0);
            return bestRow;
        }

        int shapes(int n) {
            List<Integer> tones = degrees();
            Set<List<Integer>> found = new HashSet<>();
            for (int a = 0; a < tones.size(); a++) {
                if (n == 1) {
                    found.add(List.of(0));
                }
                for (int b = a + 1; b < tones.size(); b++) {
                    if (n == 2) {
                        found.add(List.of(tones.get(b) - tones.get(a)));
                    }
                    for (int c = b + 1; c < tones.size() && n == 3; c++) {
                        found.add(List.of(tones.get(b) - tones.get(a), tones.get(c) - tones.get(a)));
                    }
                }
            }
            return found.size();
        }

        List<long[]> convergents() {
            List<Integer> a = new ArrayList<>();
            a.add(0);
            int x = period();
            int y = parts[2];
            while (y != 0) {
                a.add(x / y);
                int left = x % y;
                x = y;
                y = left;
            }
            List<long[]> found = new ArrayList<>();
            for (int last = 0; last < a.size(); last++) {
                // From the last one back: a and 1 by what is behind it.
                long above = a.get(last);
                long below = 1;
                for (int i = last - 1; i >= 0; i--) {
                    long turned = above;
                    above = a.get(i) * above + below;
                    below = turned;
                }
                found.add(new long[] {above, below});
            }
            return found;
        }

        long tell(BigInteger above, BigInteger below) {
            BigInteger divisor = above.gcd(below);
            top = above.divide(divisor).longValueExact();
            bottom = below.divide(divisor).longValueExact();
            return 1;
        }

        long tell(long above, long below) {
            return tell(BigInteger.valueOf(above), BigInteger.valueOf(below));
        }

        long mistuned(int n, int k) {
            BigInteger above = BigInteger.ZERO;
            for (int bits = 0; bits < 1 << n; bits++) {
                int many = Integer.bitCount(bits);
                if (many >= k) {
                    above = above.add(BigInteger.valueOf(parts[0]).pow(many)
                        .multiply(BigInteger.valueOf(16 - parts[0]).pow(n - many)));
                }
            }
            return tell(above, BigInteger.valueOf(16).pow(n));
        }

        int nearest(int tone) {
            List<Integer> tones = degrees();
            int best = 0;
            int fewest = Integer.MAX_VALUE;
            for (int d = 0; d < tones.size(); d++) {
                int down = fold(tone - tones.get(d));
                int up = fold(tones.get(d) - tone);
                // Twice, and one more for going up alone, so that going down is first.
                int far = Math.min(2 * down, 2 * up + 1);
                if (far < fewest) {
                    fewest = far;
                    best = d;
                }
            }
            return best;
        }

        int simplestOf(int tone) {
            Integer best = null;
            for (int k = -60; k <= 60; k++) {
                if (chain(k, parts[2], parts[5]) == tone
                    && (best == null || Math.abs(sharps(k)) < Math.abs(sharps(best)))) {
                    best = k;
                }
            }
            check(best == null, 6);
            return best;
        }

        int sharps(int k) {
            int sharps = 0;
            while (k - sharps * parts[6] < 0) {
                sharps--;
            }
            while (k - sharps * parts[6] >= parts[6]) {
                sharps++;
            }
            return sharps;
        }

        int[] key(int tone) {
            int[] best = null;
            for (int x = 0; x < 12; x++) {
                for (int y = 0; y < 6; y++) {
                    boolean better = best == null || x + y < best[0] + best[1]
                        || x + y == best[0] + best[1] && y < best[1];
                    if (fold(x * parts[7] + y * parts[8]) == tone && better) {
                        best = new int[] {x, y};
                    }
                }
            }
            check(best == null, 6);
            return best;
        }

        List<Integer> keyTones() {
            List<Integer> all = new ArrayList<>();
            for (int x = 0; x < 12; x++) {
                for (int y = 0; y < 6; y++) {
                    all.add(fold(x * parts[7] + y * parts[8]));
                }
            }
            return all;
        }

        static void check(boolean trouble, int status) {
            if (trouble) {
                throw new Trouble(status);
            }
        }

        static void within(long number, long least, long most) {
            check(number < least || number > most, 1);
        }

        void isTone(int tone) {
            within(tone, 0, period() - 1);
        }

        void isDegree(int degree) {
            within(degree, 0, degrees().size() - 1);
        }

        static int at(List<Integer> list, int k) {
            check(k < 0 || k >= list.size(), 6);
            return list.get(k);
        }

        int bound(int what) {
            return new int[] {16, 60, period() - 1, 24, 23, period() - 1, 7, period() - 1, period() - 1}[what];
        }

        long[] tray(int tray) {
            within(tray, 0, 3);
            check(trays[tray] == null, 2);
            return trays[tray];
        }

        long feed(long[] a) {
            if (tape.size() + 20 > 900) {
                return -1;
            }
            for (long four : a) {
                for (int shift = 24; shift >= 0; shift -= 8) {
                    tape.add((int) (four >> shift) & 255);
                }
            }
            return tape.size();
        }

        Text take(int n) {
            StringBuilder text = new StringBuilder();
            for (int i = 0; i < n; i++) {
                text.append((char) (int) tape.get(i));
            }
            tape.clear();
            fault = 0;
            faultPlace = -1;
            return new Text(text.toString());
        }

        long scaleText(int n) {
            within(n, 0, tape.size());
            int[] old = parts;
            TreeSet<Integer> oldSounds = sounds;
            try {
                Text text = take(n);
                parts = new int[] {4, 12, 7, 7, 0, 0, 7, 2, 1};
                sounds = new TreeSet<>();
                readParts(text);
                studies = null;
                recent = new ArrayList<>();
                return degrees().size();
            } catch (Fault found) {
                fault = found.kind;
                faultPlace = found.place;
                parts = old;
                sounds = oldSounds;
                throw new Trouble(9);
            }
        }

        void readParts(Text text) {
            List<String> words = List.of("odds", "period", "generator", "length", "down", "root", "nominals", "right",
                "up", "sounds");
            Set<Integer> told = new HashSet<>();
            for (Token token = text.next(); !token.text.isEmpty(); token = text.next()) {
                int what = words.indexOf(token.text);
                if (what < 0) {
                    throw new Fault(2, token.place);
                }
                boolean late = what == 1 && !Collections.disjoint(told, Set.of(2, 5, 7, 8, 9));
                if (late || what != 9 && told.contains(what)) {
                    throw new Fault(5, token.place);
                }
                told.add(what);
                if (what < 9) {
                    int least = what == 1 ? 2 : what == 3 || what == 6 ? 1 : 0;
                    parts[what] = text.number(least, bound(what));
                    text.sign(";");
                    continue;
                }
                while (!text.peek().text.equals(";")) {
                    int place = text.peek().place;
                    if (!sounds.add(text.number(0, period() - 1))) {
                        throw new Fault(5, place);
                    }
                }
                text.sign(";");
            }
            for (int what : new int[] {2, 5, 7, 8}) {
                parts[what] = fold(parts[what]);
            }
        }

        private int stepsRead;

        long studyText(int n) {
            within(n, 0, Math.min(300, tape.size()));
            try {
                Text text = take(n);
                stepsRead = 0;
                List<Step> read = readSteps(text, 0);
                studies = read;
                return stepsRead;
            } catch (Fault found) {
                fault = found.kind;
                faultPlace = found.place;
                throw new Trouble(9);
            }
        }

        List<Step> readSteps(Text text, int depth) {
            List<Step> found = new ArrayList<>();
            while (true) {
                Token token = text.next();
                if (token.text.isEmpty() && depth == 0) {
                    return found;
                }
                if (token.text.equals("end") && depth > 0) {
                    text.sign(";");
                    return found;
                }
                found.add(readStep(text, token, depth));
            }
        }

        Step readStep(Text text, Token token, int depth) {
            String word = token.text;
            if (!List.of("press", "lift", "root", "any", "hold", "when", "loop", "leave", "stop").contains(word)) {
                throw new Fault(2, token.place);
            }
            stepsRead++;
            if (stepsRead > 30) {
                throw new Fault(6, token.place);
            }
            boolean opens = List.of("hold", "when", "loop").contains(word);
            if (opens && depth == 3) {
                throw new Fault(7, token.place);
            }
            String test = "";
            int number = 0;
            if (word.equals("when")) {
                Token first = text.next();
                test = first.text;
                if (!List.of("sounds", "degree", "fit").contains(test)) {
                    throw new Fault(2, first.place);
                }
                if (test.equals("fit")) {
                    Token compares = text.next();
                    if (!List.of("<", ">", "=").contains(compares.text)) {
                        throw new Fault(2, compares.place);
                    }
                    test = compares.text;
                }
                number = text.number(0, first.text.equals("fit") ? 60 : 59);
            } else if (word.equals("loop")) {
                number = text.number(1, 99);
            } else if (!List.of("any", "leave", "stop").contains(word)) {
                number = text.number(0, 59);
            }
            text.sign(";");
            return new Step(word, test, number, opens ? readSteps(text, depth + 1) : List.of());
        }

        int draw(int n) {
            draws = (draws * 3293 + 11527) % 65536;
            return draws / 8 % n;
        }

        boolean pressNow(int tone) {
            boolean could = tone < period() && sounds.add(tone);
            if (could) {
                recent.add(0, tone);
                while (recent.size() > 12) {
                    recent.remove(12);
                }
            }
            return could;
        }

        void count(boolean could, boolean isPress) {
            missed += could ? 0 : 1;
            pressed += could && isPress ? 1 : 0;
            lifted += could && !isPress ? 1 : 0;
        }

        void liveBy(int seed) {
            draws = seed;
            done = 0;
            missed = 0;
            pressed = 0;
            lifted = 0;
            cut = 0;
            log = new ArrayList<>();
            try {
                doAll(studies);
            } catch (Leaving leaving) {
                // Nothing more at all.
            }
        }

        void doAll(List<Step> steps) {
            for (Step step : steps) {
                if (done == 300) {
                    cut = 1;
                    throw new Leaving(true);
                }
                done++;
                doOne(step);
            }
        }

        void doOne(Step step) {
            switch (step.word) {
                case "press": count(pressNow(step.number), true); break;
                case "lift": count(sounds.remove(step.number), false); break;
                case "root":
                    missed += step.number >= period() || parts[5] == step.number ? 1 : 0;
                    parts[5] = step.number < period() ? step.number : parts[5];
                    break;
                case "any":
                    int tone = draw(period());
                    boolean lifts = draw(16) < parts[0];
                    count(lifts ? sounds.remove(tone) : pressNow(tone), !lifts);
                    break;
                case "hold": hold(step); break;
                case "when":
                    if (isSo(step)) {
                        doAll(step.within);
                    }
                    break;
                case "loop":
                    for (int i = 0; i < step.number; i++) {
                        doAll(step.within);
                    }
                    break;
                default: throw new Leaving(step.word.equals("stop"));
            }
        }

        void hold(Step step) {
            boolean could = pressNow(step.number);
            count(could, true);
            if (!could) {
                return;
            }
            try {
                doAll(step.within);
            } catch (Leaving leaving) {
                if (leaving.all) {
                    throw leaving;
                }
            } finally {
                sounds.remove(step.number);
                log.add(step.number);
            }
        }

        boolean isSo(Step step) {
            switch (step.test) {
                case "sounds": return sounds.contains(step.number);
                case "degree": return degrees().contains(step.number);
                case "<": return fit() < step.number;
                case ">": return fit() > step.number;
                default: return fit() == step.number;
            }
        }

        Object[] keep() {
            return new Object[] {parts.clone(), new TreeSet<>(sounds), new ArrayList<>(recent), studies};
        }

        @SuppressWarnings("unchecked")
        void back(Object[] kept) {
            parts = (int[]) kept[0];
            sounds = (TreeSet<Integer>) kept[1];
            recent = (List<Integer>) kept[2];
            studies = (List<Step>) kept[3];
        }

        long mean(int seed, int many) {
            within(seed, 0, 9999);
            within(many, 1, 20);
            within(seed + many - 1, 0, 9999);
            check(studies == null, 6);
            long together = 0;
            for (int i = 0; i < many; i++) {
                Object[] kept = keep();
                liveBy(seed + i);
                together += sounds.size();
                back(kept);
            }
            return tell(together, many);
        }

        long rule(int what, int much) {
            within(what, 0, 8);
            within(much, what == 1 ? 2 : what == 3 || what == 6 ? 1 : 0, bound(what));
            check(parts[what] == much, 7);
            parts[what] = much;
            for (int other : new int[] {2, 5, 7, 8}) {
                parts[other] = fold(parts[other]);
            }
            sounds.removeIf(tone -> tone >= period());
            return degrees().size();
        }

        long steps(int tray, int n) {
            within(tray, 0, 3);
            within(n, 0, 60);
            long[] row = tray(tray);
            check(n > row.length, 3);
            List<Integer> tones = degrees();
            int size = tones.size();
            int many = 0;
            for (int i = 0; i < n; i++) {
                check(row[i] < 0 || row[i] >= period(), 5);
            }
            for (int i = 1; i < n; i++) {
                int ahead = tones.indexOf((int) row[i - 1]);
                int now = tones.indexOf((int) row[i]);
                boolean below = (ahead + 1) % size == now;
                boolean above = (now + 1) % size == ahead;
                many += ahead >= 0 && now >= 0 && (below || above) ? 1 : 0;
            }
            return many;
        }

        long pour(int from, int place, int to, int at, int many) {
            within(from, 0, 3);
            within(to, 0, 3);
            check(place < 0 || at < 0 || many < 0, 1);
            long[] source = tray(from);
            long[] target = tray(to);
            check(traySort[from] != traySort[to], 8);
            check((long) place + many > source.length || (long) at + many > target.length, 3);
            long[] copy = Arrays.copyOfRange(source, place, place + many);
            for (int i = 0; i < many; i++) {
                target[at + i] = copy[i];
            }
            return 1;
        }

        long answer(String name, long[] a, int x, int y) {
            switch (name) {
                case "tray":
                    within(x, 0, 3);
                    within(y, 0, 3);
                    within(a[2], 0, 60);
                    traySort[x] = y;
                    trays[x] = new long[(int) a[2]];
                    return 1;
                case "write": {
                    long[] row = tray(x);
                    check(y < 0 || y >= row.length, 3);
                    int bits = 8 << traySort[x];
                    row[y] = a[2] << 64 - bits >> 64 - bits;
                    return 1;
                }
                case "read": {
                    long[] row = tray(x);
                    check(y < 0 || y >= row.length, 3);
                    return row[y];
                }
                case "pour": return pour(x, y, (int) a[2], (int) a[3], (int) a[4]);
                case "scale": return scaleText(x);
                case "studies": return studyText(x);
                case "told":
                    within(x, 0, 11);
                    return x < 9 ? parts[x] : x == 9 ? degrees().size() : x == 10 ? sizes().size() : sounds.size();
                case "chain":
                    within(x, -60, 60);
                    return chain(x, parts[2], parts[5]);
                case "tone":
                    isDegree(x);
                    return degrees().get(x);
                case "degree":
                    isTone(x);
                    check(!degrees().contains(x), 6);
                    return degrees().indexOf(x);
                case "step":
                    isDegree(x);
                    return stepsOf(degrees()).get(x);
                case "span":
                    isDegree(x);
                    within(y, 0, 24);
                    return span(x, y);
                case "sizeAt": return at(sizes(), x);
                case "sizeMany": return Collections.frequency(stepsOf(degrees()), at(sizes(), x));
                case "rule": return rule(x, y);
                case "soundAt": return at(new ArrayList<>(sounds), x);
                case "recent": return at(recent, x);
                case "mark":
                    check(marks.size() == 3, 4);
                    marks.add(keep());
                    return marks.size();
                case "undo":
                    check(marks.isEmpty(), 6);
                    back(marks.remove(marks.size() - 1));
                    return marks.size();
                default: return answerMore(name, x, y);
            }
        }

        long answerMore(String name, int x, int y) {
            switch (name) {
                case "press":
                    isTone(x);
                    check(!pressNow(x), 7);
                    return sounds.size();
                case "lift":
                    isTone(x);
                    check(!sounds.remove(x), 7);
                    return sounds.size();
                case "sift": {
                    int before = sounds.size();
                    sounds.retainAll(degrees());
                    return before - sounds.size();
                }
                case "glide": {
                    within(x, 0, 59);
                    TreeSet<Integer> higher = new TreeSet<>();
                    sounds.forEach(tone -> higher.add(fold(tone + x)));
                    sounds = higher;
                    return fit();
                }
                case "flip":
                    check(parts[4] >= parts[3], 7);
                    parts[2] = fold(period() - parts[2]);
                    parts[4] = parts[3] - 1 - parts[4];
                    return degrees().size();
                case "variety":
                    within(x, 1, 24);
                    return variety(x);
                case "myhill": {
                    int many = degrees().size();
                    for (int n = 1; n < many; n++) {
                        if (variety(n) != 2) {
                            return 0;
                        }
                    }
                    return many >= 2 ? 1 : 0;
                }
                case "lengths": return wellFormed().size();
                case "lengthAt": return at(wellFormed(), x);
                case "modes": {
                    Set<List<Integer>> unlike = new HashSet<>();
                    for (int d = 0; d < degrees().size(); d++) {
                        unlike.add(mode(d));
                    }
                    return unlike.size();
                }
                case "alike":
                    isDegree(x);
                    isDegree(y);
                    return mode(x).equals(mode(y)) ? 1 : 0;
                case "brightness":
                    isDegree(x);
                    return brightness(x);
                case "modeBy": {
                    List<Integer> order = new ArrayList<>();
                    for (int d = 0; d < degrees().size(); d++) {
                        order.add(d);
                    }
                    order.sort(java.util.Comparator.comparingInt(this::brightness));
                    return at(order, x);
                }
                case "nominal":
                    within(x, -60, 60);
                    return x - sharps(x) * parts[6];
                case "sharps":
                    within(x, -60, 60);
                    return sharps(x);
                case "named":
                    within(x, 0, parts[6] - 1);
                    within(y, -9, 9);
                    return chain(y * parts[6] + x, parts[2], parts[5]);
                case "simplest": {
                    isTone(x);
                    within(y, 0, 2);
                    int k = simplestOf(x);
                    return y == 0 ? k - sharps(k) * parts[6] : y == 1 ? sharps(k) : k;
                }
                case "names": {
                    isTone(x);
                    int many = 0;
                    for (int k = -60; k <= 60; k++) {
                        many += chain(k, parts[2], parts[5]) == x ? 1 : 0;
                    }
                    return many;
                }
                default: return answerStillMore(name, x, y);
            }
        }

        long answerStillMore(String name, int x, int y) {
            switch (name) {
                case "keyTone":
                    within(x, 0, 11);
                    within(y, 0, 5);
                    return fold(x * parts[7] + y * parts[8]);
                case "keys":
                    isTone(x);
                    return Collections.frequency(keyTones(), x);
                case "keyOf":
                    isTone(x);
                    within(y, 0, 1);
                    return key(x)[y];
                case "keyTones": return new HashSet<>(keyTones()).size();
                case "nearest":
                    isTone(x);
                    return nearest(x);
                case "fit": return fit();
                case "bestRoot": {
                    int best = 0;
                    int most = -1;
                    for (int root = 0; root < period(); root++) {
                        Set<Integer> both = new HashSet<>(sounds);
                        both.retainAll(tonesBy(parts[2], root, parts[3]));
                        if (both.size() > most) {
                            most = both.size();
                            best = root;
                        }
                    }
                    return best;
                }
                case "guesses": return guesses().size();
                case "guessAt": return at(guesses(), x);
                case "ask": return ask();
                case "common": {
                    isTone(x);
                    Set<Integer> both = new HashSet<>(degrees());
                    both.retainAll(tonesBy(parts[2], x, parts[3]));
                    return both.size();
                }
                case "way":
                    way();
                    return bestFar;
                case "wayAt": return at(way(), x);
                case "shapes":
                    within(x, 1, 3);
                    return shapes(x);
                case "convergents": return convergents().size();
                case "convergent": {
                    List<long[]> all = convergents();
                    check(x < 0 || x >= all.size(), 6);
                    return tell(all.get(x)[0], all.get(x)[1]);
                }
                case "ratio": return tell(Collections.max(sizes()), Collections.min(sizes()));
                case "share": return tell(Collections.frequency(stepsOf(degrees()), at(sizes(), x)), degrees().size());
                case "mistuned":
                    within(x, 0, 12);
                    within(y, 0, 12);
                    return mistuned(x, y);
                case "copyScale": {
                    long[] row = tray(x);
                    List<Integer> tones = degrees();
                    check(tones.size() > row.length, 3);
                    for (int d = 0; d < tones.size(); d++) {
                        row[d] = tones.get(d);
                    }
                    return tones.size();
                }
                case "steps": return steps(x, y);
                case "live":
                    within(x, 0, 9999);
                    check(studies == null, 6);
                    liveBy(x);
                    lived = new int[] {missed, pressed, lifted, log.size(), cut};
                    livedLog = log.subList(0, Math.min(60, log.size()));
                    return done;
                case "lived":
                    within(x, 0, 4);
                    check(lived == null, 6);
                    return lived[x];
                case "logAt":
                    check(livedLog == null, 6);
                    return at(livedLog, x);
                case "mean": return mean(x, y);
                default: throw new IllegalStateException(name);
            }
        }
    }
}
