/**
 * Generated scales, what sounds in them, and studies played on them.
 *
 * Sets of TONES are the bits of a long (bit t: TONE t), since a PERIOD is 60 at most: to move a set, to
 * compare two and to count one are then single steps. All rows are made in the constructor and used again,
 * so that no call makes an object.
 */
public final class ScaleForge {
    public static final int NONE = -1;

    // STATUS numbers, in the order in which they are asked.
    private static final int WRONG_NUMBER = 1;
    private static final int TRAY_MISSING = 2;
    private static final int TRAY_SHORT = 3;
    private static final int ONE_TOO_MANY = 4;
    private static final int WRONG_IN_TRAY = 5;
    private static final int NO_SUCH = 6;
    private static final int CANNOT_BE = 7;
    private static final int UNLIKE_SORTS = 8;
    private static final int FAULTY = 9;

    // PARTS of a SCALE, by the numbers that told() and rule() give them.
    private static final int ODDS = 0;
    private static final int PERIOD = 1;
    private static final int GENERATOR = 2;
    private static final int LENGTH = 3;
    private static final int DOWN = 4;
    private static final int ROOT = 5;
    private static final int NOMINALS = 6;
    private static final int RIGHT = 7;
    private static final int UP = 8;
    private static final int SOUNDS = 9;
    private static final int RULES = 9;
    private static final int[] WITHOUT = {4, 12, 7, 7, 0, 0, 7, 2, 1};
    private static final int[] LEAST = {0, 2, 0, 1, 0, 0, 1, 0, 0};
    // Those with 59 are bound by PERIOD instead: mostOf() has the rule.
    private static final int[] MOST = {16, 60, 59, 24, 23, 59, 7, 59, 59};

    private static final int MOST_TONES = 60;
    private static final int MOST_DEGREES = 24;
    private static final int FARTHEST_NAME = 60;
    private static final int KEYS_WIDE = 12;
    private static final int KEYS_HIGH = 6;
    private static final int MOST_RECENT = 12;
    private static final int MOST_ON_WAY = 7;
    private static final int MOST_TUNED = 12;

    // Sorts of TOKENS.
    private static final int END_OF_TEXT = 0;
    private static final int WORD = 1;
    private static final int NUMBER = 2;
    private static final int SIGN = 3;
    private static final int NO_TOKEN = 4;

    // FAULTS.
    private static final int BEGINS_SO = 1;
    private static final int STANDS_THERE = 2;
    private static final int NUMBER_CANNOT_BE = 4;
    private static final int TOLD_ALREADY = 5;
    private static final int STEP_TOO_MANY = 6;
    private static final int TOO_DEEP = 7;

    // Kinds of STEPS of the STUDIES.
    private static final int PRESS = 0;
    private static final int LIFT = 1;
    private static final int SET_ROOT = 2;
    private static final int ANY = 3;
    private static final int HOLD = 4;
    private static final int WHEN = 5;
    private static final int LOOP = 6;
    private static final int LEAVE = 7;
    private static final int STOP = 8;

    // Kinds of TESTS.
    private static final int IF_SOUNDS = 0;
    private static final int IF_DEGREE = 1;
    private static final int IF_FIT_BELOW = 2;
    private static final int IF_FIT_ABOVE = 3;
    private static final int IF_FIT_EQUALS = 4;

    private static final int MOST_TAPE = 900;
    private static final int FED_AT_ONCE = 20;
    private static final int MOST_STUDY_TEXT = 300;
    private static final int MOST_STEPS = 30;
    private static final int MOST_WITHIN = 3;
    private static final int MOST_LOOP = 99;
    private static final int MOST_DONE = 300;
    // Above MOST_DONE with all ends of holds and loops that can come between two STEPS.
    private static final int MOST_TURNS = 10000;
    private static final int MOST_LOG = 60;
    private static final int MOST_SEED = 9999;
    private static final int MOST_SEEDS = 20;
    private static final int MOST_MARKS = 3;
    private static final int TRAYS = 4;

    private int status;
    private long top;
    private long bottom;
    private final Tray[] trays;
    private final Reader reader;
    private final ScaleText scaleText;
    private final StudyText studyText;
    private final Scale scale;
    private final Studies studies;
    private final Ring ring;
    private final Guessing guessing;
    private final Walk walk;
    private final long[] row;
    private final Life life;
    private final Scale trialScale;
    private final Life trialLife;
    private final Scale[] markedScales;
    private final Studies[] markedStudies;
    private int marks;

    public ScaleForge() {
        status = 0;
        top = 0;
        bottom = 1;
        trays = new Tray[TRAYS];
        for (int i = 0; i < trays.length; i++) {
            trays[i] = new Tray();
        }
        reader = new Reader();
        scaleText = new ScaleText(reader);
        studyText = new StudyText(reader);
        scale = new Scale();
        studies = new Studies();
        ring = new Ring();
        guessing = new Guessing();
        walk = new Walk();
        row = new long[MOST_TONES];
        life = new Life(scale, studies);
        trialScale = new Scale();
        trialLife = new Life(trialScale, studies);
        markedScales = new Scale[MOST_MARKS];
        markedStudies = new Studies[MOST_MARKS];
        for (int i = 0; i < MOST_MARKS; i++) {
            markedScales[i] = new Scale();
            markedStudies[i] = new Studies();
        }
        marks = 0;
    }

    public int status() {
        return status;
    }

    public long top() {
        return top;
    }

    public long bottom() {
        return bottom;
    }

    // ---- TRAYS

    public boolean tray(int tray, int sort, int many) {
        Tray it = trayAt(tray);
        if (it == null || sort < 0 || sort > 3 || many < 0 || many > MOST_TONES) {
            return refuse(WRONG_NUMBER);
        }
        it.empty(sort, many);
        return grant();
    }

    public boolean write(int tray, int place, long v) {
        Tray it = trayAt(tray);
        int why = placeTrouble(it, place);
        if (it == null || why != 0) {
            return refuse(why);
        }
        it.put(place, v);
        return grant();
    }

    public long read(int tray, int place) {
        Tray it = trayAt(tray);
        int why = placeTrouble(it, place);
        if (it == null || why != 0) {
            return none(why);
        }
        status = 0;
        return it.at(place);
    }

    public boolean pour(int from, int place, int to, int at, int many) {
        Tray source = trayAt(from);
        Tray target = trayAt(to);
        if (source == null || target == null || place < 0 || at < 0 || many < 0) {
            return refuse(WRONG_NUMBER);
        }
        if (source.isMissing() || target.isMissing()) {
            return refuse(TRAY_MISSING);
        }
        if (source.sort != target.sort) {
            return refuse(UNLIKE_SORTS);
        }
        if (!source.hasRun(place, many) || !target.hasRun(at, many)) {
            return refuse(TRAY_SHORT);
        }
        System.arraycopy(source.numbers, place, target.numbers, at, many);
        return grant();
    }

    // ---- texts

    public int feed(int a, int b, int c, int d, int e) {
        if (reader.fed + FED_AT_ONCE > MOST_TAPE) {
            return NONE;
        }
        reader.append(a);
        reader.append(b);
        reader.append(c);
        reader.append(d);
        reader.append(e);
        return reader.fed;
    }

    public int scale(int n) {
        if (n < 0 || n > reader.fed) {
            return none(WRONG_NUMBER);
        }
        boolean taken = scaleText.parse(n);
        reader.fed = 0;
        if (!taken) {
            return none(FAULTY);
        }
        scale.becomes(scaleText.draft);
        studies.areThere = false;
        return give(scale.degreesMany());
    }

    public int studies(int n) {
        if (n < 0 || n > reader.fed || n > MOST_STUDY_TEXT) {
            return none(WRONG_NUMBER);
        }
        boolean taken = studyText.parse(n);
        reader.fed = 0;
        if (!taken) {
            return none(FAULTY);
        }
        studies.becomes(studyText.draft);
        return give(studies.many);
    }

    public int fault(int what) {
        if (what == 0) {
            return reader.fault;
        }
        return what == 1 ? reader.faultPlace : NONE;
    }

    public int told(int what) {
        if (what >= 0 && what < RULES) {
            return give(scale.part(what));
        }
        switch (what) {
            case 9:
                return give(scale.degreesMany());
            case 10:
                return give(Long.bitCount(degreesRing().sizes()));
            case 11:
                return give(Long.bitCount(scale.sounding));
            default:
                return none(WRONG_NUMBER);
        }
    }

    public int chain(int k) {
        return isFarName(k) ? none(WRONG_NUMBER) : give(scale.chainTone(k));
    }

    public int tone(int degree) {
        return isDegree(degree) ? give(degreesRing().toneAt(degree)) : none(WRONG_NUMBER);
    }

    public int degree(int tone) {
        if (!scale.isTone(tone)) {
            return none(WRONG_NUMBER);
        }
        return scale.isOfDegree(tone) ? give(degreeOf(tone)) : none(NO_SUCH);
    }

    public int step(int degree) {
        return isDegree(degree) ? give(degreesRing().spanFrom(degree, 1)) : none(WRONG_NUMBER);
    }

    public int span(int degree, int n) {
        if (!isDegree(degree) || n < 0 || n > MOST_DEGREES) {
            return none(WRONG_NUMBER);
        }
        return give(degreesRing().spanFrom(degree, n));
    }

    public int sizeAt(int k) {
        return giveFound(Bits.pick(degreesRing().sizes(), k));
    }

    public int sizeMany(int k) {
        int size = Bits.pick(degreesRing().sizes(), k);
        return size == NONE ? none(NO_SUCH) : give(ring.stepsOf(size));
    }

    // ---- what is done

    public int rule(int what, int much) {
        if (!isAllowed(what, much, scale.period())) {
            return none(WRONG_NUMBER);
        }
        if (scale.part(what) == much) {
            return none(CANNOT_BE);
        }
        scale.setPart(what, much);
        scale.settle();
        return give(scale.degreesMany());
    }

    public int press(int tone) {
        if (!scale.isTone(tone)) {
            return none(WRONG_NUMBER);
        }
        return scale.strike(tone) ? give(Long.bitCount(scale.sounding)) : none(CANNOT_BE);
    }

    public int lift(int tone) {
        if (!scale.isTone(tone)) {
            return none(WRONG_NUMBER);
        }
        return scale.release(tone) ? give(Long.bitCount(scale.sounding)) : none(CANNOT_BE);
    }

    public int sift() {
        int before = Long.bitCount(scale.sounding);
        scale.sounding &= scale.degrees;
        return give(before - Long.bitCount(scale.sounding));
    }

    public int glide(int n) {
        if (n < 0 || n >= MOST_TONES) {
            return none(WRONG_NUMBER);
        }
        scale.sounding = Bits.turn(scale.sounding, scale.folded(n), scale.period());
        return give(scale.fitting());
    }

    public int flip() {
        int down = scale.part(DOWN);
        int length = scale.part(LENGTH);
        if (down >= length) {
            return none(CANNOT_BE);
        }
        scale.setPart(GENERATOR, scale.folded(-scale.part(GENERATOR)));
        scale.setPart(DOWN, length - 1 - down);
        scale.settle();
        return give(scale.degreesMany());
    }

    public int soundAt(int k) {
        return giveFound(Bits.pick(scale.sounding, k));
    }

    public int recent(int k) {
        return giveFound(scale.pressedAt(k));
    }

    // ---- spans, lengths, modes

    public int variety(int n) {
        if (n < 1 || n > MOST_DEGREES) {
            return none(WRONG_NUMBER);
        }
        return give(degreesRing().spanSorts(n));
    }

    public int myhill() {
        Ring degrees = degreesRing();
        if (degrees.many < 2) {
            return give(0);
        }
        for (int n = 1; n < degrees.many; n++) {
            if (degrees.spanSorts(n) != 2) {
                return give(0);
            }
        }
        return give(1);
    }

    public int lengths() {
        return give(Long.bitCount(wellFormed()));
    }

    public int lengthAt(int k) {
        return giveFound(Bits.pick(wellFormed(), k));
    }

    public int modes() {
        Ring degrees = degreesRing();
        int unlike = 0;
        for (int d = 0; d < degrees.many; d++) {
            boolean isNew = true;
            for (int earlier = 0; earlier < d && isNew; earlier++) {
                isNew = degrees.modeOf(earlier) != degrees.modeOf(d);
            }
            unlike += isNew ? 1 : 0;
        }
        return give(unlike);
    }

    public int alike(int degree, int other) {
        if (!isDegree(degree) || !isDegree(other)) {
            return none(WRONG_NUMBER);
        }
        Ring degrees = degreesRing();
        return give(degrees.modeOf(degree) == degrees.modeOf(other) ? 1 : 0);
    }

    public int brightness(int degree) {
        return isDegree(degree) ? give(degreesRing().brightnessOf(degree)) : none(WRONG_NUMBER);
    }

    public int modeBy(int k) {
        if (!isDegree(k)) {
            return none(NO_SUCH);
        }
        Ring degrees = degreesRing();
        for (int d = 0; d < degrees.many && d < row.length; d++) {
            row[d] = degrees.brightnessOf(d);
        }
        for (int d = 0; d < degrees.many; d++) {
            if (darkerThan(d, degrees.many) == k) {
                return give(d);
            }
        }
        return none(NO_SUCH);
    }

    // ---- names

    public int nominal(int k) {
        return isFarName(k) ? none(WRONG_NUMBER) : give(scale.nominalOf(k));
    }

    public int sharps(int k) {
        return isFarName(k) ? none(WRONG_NUMBER) : give(scale.sharpsOf(k));
    }

    public int named(int nominal, int sharps) {
        int nominals = scale.part(NOMINALS);
        if (nominal < 0 || nominal >= nominals || sharps < -9 || sharps > 9) {
            return none(WRONG_NUMBER);
        }
        return give(scale.chainTone(sharps * nominals + nominal));
    }

    public int simplest(int tone, int what) {
        if (!scale.isTone(tone) || what < 0 || what > 2) {
            return none(WRONG_NUMBER);
        }
        boolean found = false;
        int best = 0;
        for (int k = -FARTHEST_NAME; k <= FARTHEST_NAME; k++) {
            boolean simpler = !found || Math.abs(scale.sharpsOf(k)) < Math.abs(scale.sharpsOf(best));
            if (simpler && scale.chainTone(k) == tone) {
                best = k;
                found = true;
            }
        }
        if (!found) {
            return none(NO_SUCH);
        }
        if (what == 2) {
            return give(best);
        }
        return give(what == 0 ? scale.nominalOf(best) : scale.sharpsOf(best));
    }

    public int names(int tone) {
        if (!scale.isTone(tone)) {
            return none(WRONG_NUMBER);
        }
        int many = 0;
        for (int k = -FARTHEST_NAME; k <= FARTHEST_NAME; k++) {
            many += scale.chainTone(k) == tone ? 1 : 0;
        }
        return give(many);
    }

    // ---- keys

    public int keyTone(int x, int y) {
        if (x < 0 || x >= KEYS_WIDE || y < 0 || y >= KEYS_HIGH) {
            return none(WRONG_NUMBER);
        }
        return give(scale.toneOfKey(x, y));
    }

    public int keys(int tone) {
        if (!scale.isTone(tone)) {
            return none(WRONG_NUMBER);
        }
        int many = 0;
        for (int y = 0; y < KEYS_HIGH; y++) {
            for (int x = 0; x < KEYS_WIDE; x++) {
                many += scale.toneOfKey(x, y) == tone ? 1 : 0;
            }
        }
        return give(many);
    }

    public int keyOf(int tone, int what) {
        if (!scale.isTone(tone) || what < 0 || what > 1) {
            return none(WRONG_NUMBER);
        }
        for (int together = 0; together < KEYS_WIDE + KEYS_HIGH; together++) {
            for (int y = 0; y < KEYS_HIGH && y <= together; y++) {
                int x = together - y;
                if (x < KEYS_WIDE && scale.toneOfKey(x, y) == tone) {
                    return give(what == 0 ? x : y);
                }
            }
        }
        return none(NO_SUCH);
    }

    public int keyTones() {
        long found = 0;
        for (int y = 0; y < KEYS_HIGH; y++) {
            for (int x = 0; x < KEYS_WIDE; x++) {
                found |= 1L << scale.toneOfKey(x, y);
            }
        }
        return give(Long.bitCount(found));
    }

    // ---- what sounds

    public int nearest(int tone) {
        if (!scale.isTone(tone)) {
            return none(WRONG_NUMBER);
        }
        for (int far = 0; far < MOST_TONES; far++) {
            int below = scale.folded(tone - far);
            if (scale.isOfDegree(below)) {
                return give(degreeOf(below));
            }
            int above = scale.folded(tone + far);
            if (scale.isOfDegree(above)) {
                return give(degreeOf(above));
            }
        }
        return none(NO_SUCH);
    }

    public int fit() {
        return give(scale.fitting());
    }

    public int bestRoot() {
        long atZero = scale.stacked(scale.part(GENERATOR), 0, scale.part(LENGTH));
        int best = 0;
        int most = NONE;
        for (int root = 0; root < scale.period(); root++) {
            int fits = Long.bitCount(Bits.turn(atZero, root, scale.period()) & scale.sounding);
            if (fits > most) {
                most = fits;
                best = root;
            }
        }
        return give(best);
    }

    public int guesses() {
        guessing.search(scale);
        return give(Long.bitCount(guessing.found));
    }

    public int guessAt(int k) {
        guessing.search(scale);
        return giveFound(Bits.pick(guessing.found, k));
    }

    public int ask() {
        guessing.search(scale);
        return giveFound(guessing.bestQuestion(scale));
    }

    public int common(int root) {
        if (!scale.isTone(root)) {
            return none(WRONG_NUMBER);
        }
        long other = scale.stacked(scale.part(GENERATOR), root, scale.part(LENGTH));
        return give(Long.bitCount(scale.degrees & other));
    }

    public int way() {
        if (Long.bitCount(scale.sounding) > MOST_ON_WAY) {
            return none(CANNOT_BE);
        }
        walk.lay(scale.sounding, scale.period());
        return give(walk.length());
    }

    public int wayAt(int k) {
        if (Long.bitCount(scale.sounding) > MOST_ON_WAY) {
            return none(CANNOT_BE);
        }
        walk.lay(scale.sounding, scale.period());
        return giveFound(walk.stopAt(k));
    }

    public int shapes(int n) {
        if (n < 1 || n > 3) {
            return none(WRONG_NUMBER);
        }
        if (n == 1) {
            return give(1);
        }
        Ring degrees = degreesRing();
        return give(n == 2 ? pairShapes(degrees) : tripleShapes(degrees));
    }

    // ---- fractions, odds

    public int convergents() {
        int x = scale.period();
        int y = scale.part(GENERATOR);
        int many = 1;
        for (int turn = 0; turn < MOST_TONES && y > 0; turn++) {
            int left = x % y;
            x = y;
            y = left;
            many++;
        }
        return give(many);
    }

    public boolean convergent(int k) {
        if (k < 0) {
            return refuse(NO_SUCH);
        }
        int x = scale.period();
        int y = scale.part(GENERATOR);
        long above = 0;
        long below = 1;
        long aboveAhead = 1;
        long belowAhead = 0;
        int at = 0;
        for (int turn = 0; turn < MOST_TONES && y > 0 && at < k; turn++) {
            int whole = x / y;
            int left = x % y;
            long nextAbove = whole * above + aboveAhead;
            long nextBelow = whole * below + belowAhead;
            aboveAhead = above;
            belowAhead = below;
            above = nextAbove;
            below = nextBelow;
            x = y;
            y = left;
            at++;
        }
        return at == k ? tell(above, below) : refuse(NO_SUCH);
    }

    public boolean ratio() {
        long sizes = degreesRing().sizes();
        int greatest = Bits.pick(sizes, Long.bitCount(sizes) - 1);
        return tell(greatest, Bits.pick(sizes, 0));
    }

    public boolean share(int k) {
        int size = Bits.pick(degreesRing().sizes(), k);
        return size == NONE ? refuse(NO_SUCH) : tell(ring.stepsOf(size), ring.many);
    }

    public boolean mistuned(int n, int k) {
        if (n < 0 || n > MOST_TUNED || k < 0 || k > MOST_TUNED) {
            return refuse(WRONG_NUMBER);
        }
        int odds = scale.part(ODDS);
        // row[j]: of 16 to the power of the TONES looked at so far, the part by which j are mistuned.
        for (int j = 0; j <= MOST_TUNED; j++) {
            row[j] = j == 0 ? 1 : 0;
        }
        long all = 1;
        for (int tone = 0; tone < n; tone++) {
            for (int j = MOST_TUNED; j > 0; j--) {
                row[j] = row[j] * (16 - odds) + row[j - 1] * odds;
            }
            row[0] = row[0] * (16 - odds);
            all *= 16;
        }
        long enough = 0;
        for (int j = k; j <= MOST_TUNED; j++) {
            enough += row[j];
        }
        return tell(enough, all);
    }

    public int copyScale(int tray) {
        Tray it = trayAt(tray);
        int many = scale.degreesMany();
        int why = runTrouble(it, many);
        if (it == null || why != 0) {
            return none(why);
        }
        Ring degrees = degreesRing();
        for (int d = 0; d < many; d++) {
            it.put(d, degrees.toneAt(d));
        }
        return give(many);
    }

    public int steps(int tray, int n) {
        Tray it = trayAt(tray);
        int why = n < 0 || n > MOST_TONES ? WRONG_NUMBER : runTrouble(it, n);
        if (it == null || why != 0) {
            return none(why);
        }
        for (int i = 0; i < n; i++) {
            if (it.at(i) < 0 || it.at(i) >= scale.period()) {
                return none(WRONG_IN_TRAY);
            }
        }
        int many = 0;
        for (int i = 1; i < n; i++) {
            many += isStepApart((int) it.at(i - 1), (int) it.at(i)) ? 1 : 0;
        }
        return give(many);
    }

    // ---- STUDIES

    public int live(int seed) {
        if (seed < 0 || seed > MOST_SEED) {
            return none(WRONG_NUMBER);
        }
        if (!studies.areThere) {
            return none(NO_SUCH);
        }
        life.run(seed);
        return give(life.done);
    }

    public int lived(int what) {
        if (what < 0 || what > 4) {
            return none(WRONG_NUMBER);
        }
        return life.wasRun ? give(life.count(what)) : none(NO_SUCH);
    }

    public int logAt(int k) {
        return giveFound(life.letGoAt(k));
    }

    public boolean mean(int seed, int many) {
        if (seed < 0 || seed > MOST_SEED || many < 1 || many > MOST_SEEDS || seed + many - 1 > MOST_SEED) {
            return refuse(WRONG_NUMBER);
        }
        if (!studies.areThere) {
            return refuse(NO_SUCH);
        }
        long together = 0;
        for (int i = 0; i < many; i++) {
            trialScale.becomes(scale);
            trialLife.run(seed + i);
            together += Long.bitCount(trialScale.sounding);
        }
        return tell(together, many);
    }

    // ---- MARKS

    public int mark() {
        if (marks < 0 || marks >= MOST_MARKS) {
            return none(ONE_TOO_MANY);
        }
        markedScales[marks].becomes(scale);
        markedStudies[marks].becomes(studies);
        marks++;
        return give(marks);
    }

    public int undo() {
        if (marks < 1 || marks > MOST_MARKS) {
            return none(NO_SUCH);
        }
        marks--;
        scale.becomes(markedScales[marks]);
        studies.becomes(markedStudies[marks]);
        return give(marks);
    }

    // ---- how calls end

    private int give(int answer) {
        status = 0;
        return answer;
    }

    private int none(int why) {
        status = why;
        return NONE;
    }

    private int giveFound(int found) {
        return found == NONE ? none(NO_SUCH) : give(found);
    }

    private boolean grant() {
        status = 0;
        return true;
    }

    private boolean refuse(int why) {
        status = why;
        return false;
    }

    private boolean tell(long above, long below) {
        long divisor = commonDivisor(above, below);
        if (divisor < 1) {
            return refuse(CANNOT_BE);
        }
        top = above / divisor;
        bottom = below / divisor;
        return grant();
    }

    private static long commonDivisor(long a, long b) {
        long x = a;
        long y = b;
        // Halves at least every second turn: 128 turns are enough for any two longs.
        for (int turn = 0; turn < 128 && y != 0; turn++) {
            long left = x % y;
            x = y;
            y = left;
        }
        return x;
    }

    // ---- what calls ask first

    private Tray trayAt(int tray) {
        return tray >= 0 && tray < trays.length ? trays[tray] : null;
    }

    private static int placeTrouble(Tray it, int place) {
        if (it == null) {
            return WRONG_NUMBER;
        }
        if (it.isMissing()) {
            return TRAY_MISSING;
        }
        return it.hasPlace(place) ? 0 : TRAY_SHORT;
    }

    private static int runTrouble(Tray it, int many) {
        if (it == null) {
            return WRONG_NUMBER;
        }
        if (it.isMissing()) {
            return TRAY_MISSING;
        }
        return it.hasRun(0, many) ? 0 : TRAY_SHORT;
    }

    private boolean isDegree(int degree) {
        return degree >= 0 && degree < scale.degreesMany();
    }

    private static boolean isFarName(int k) {
        return k < -FARTHEST_NAME || k > FARTHEST_NAME;
    }

    private static boolean isBoundByPeriod(int what) {
        return what == GENERATOR || what == ROOT || what == RIGHT || what == UP;
    }

    private static boolean isAllowed(int what, int much, int period) {
        return what >= 0 && what < RULES && much >= leastOf(what) && much <= mostOf(what, period);
    }

    private static int leastOf(int what) {
        return what >= 0 && what < LEAST.length ? LEAST[what] : 0;
    }

    private static int mostOf(int what, int period) {
        if (isBoundByPeriod(what)) {
            return period - 1;
        }
        return what >= 0 && what < MOST.length ? MOST[what] : 0;
    }

    // ---- what calls share

    private Ring degreesRing() {
        ring.gather(scale.degrees, scale.period());
        return ring;
    }

    private int degreeOf(int tone) {
        return Long.bitCount(scale.degrees & (Bits.of(tone) - 1));
    }

    private int darkerThan(int degree, int many) {
        int darker = 0;
        for (int d = 0; d < many && d < row.length && degree < row.length; d++) {
            boolean isDarker = row[d] < row[degree] || row[d] == row[degree] && d < degree;
            darker += isDarker ? 1 : 0;
        }
        return darker;
    }

    private long wellFormed() {
        long found = 0;
        for (int length = 2; length <= MOST_DEGREES; length++) {
            long tones = scale.stacked(scale.part(GENERATOR), scale.part(ROOT), length);
            if (Long.bitCount(tones) == length) {
                ring.gather(tones, scale.period());
                found |= Long.bitCount(ring.sizes()) <= 2 ? Bits.of(length) : 0;
            }
        }
        return found;
    }

    private static int pairShapes(Ring degrees) {
        long found = 0;
        for (int a = 0; a < degrees.many; a++) {
            for (int b = a + 1; b < degrees.many; b++) {
                found |= Bits.of(degrees.toneAt(b) - degrees.toneAt(a));
            }
        }
        return Long.bitCount(found);
    }

    private int tripleShapes(Ring degrees) {
        // row[i]: how far the third TONE is, by how far the second one is.
        for (int i = 0; i < row.length; i++) {
            row[i] = 0;
        }
        for (int a = 0; a < degrees.many; a++) {
            for (int b = a + 1; b < degrees.many; b++) {
                int second = degrees.toneAt(b) - degrees.toneAt(a);
                if (second > 0 && second < row.length) {
                    row[second] |= degrees.farther(a, b);
                }
            }
        }
        int many = 0;
        for (int i = 0; i < row.length; i++) {
            many += Long.bitCount(row[i]);
        }
        return many;
    }

    private boolean isStepApart(int tone, int next) {
        if (!scale.isOfDegree(tone) || !scale.isOfDegree(next)) {
            return false;
        }
        int many = scale.degreesMany();
        int apart = Math.abs(degreeOf(tone) - degreeOf(next));
        return many == 1 || apart == 1 || apart == many - 1;
    }

    /** Sets of numbers from 0 to 63 as the bits of a long. */
    private static final class Bits {
        static long of(int number) {
            return number >= 0 && number < 64 ? 1L << number : 0;
        }

        static boolean has(long set, int number) {
            return number >= 0 && number < 64 && (set >>> number & 1) != 0;
        }

        /** All numbers below one (0 to 63). */
        static long below(int number) {
            return of(number) - 1;
        }

        /** The k-th of a set, rising, or NONE. */
        static int pick(long set, int k) {
            if (k < 0) {
                return NONE;
            }
            int left = k;
            for (int number = 0; number < 64; number++) {
                if (has(set, number)) {
                    if (left == 0) {
                        return number;
                    }
                    left--;
                }
            }
            return NONE;
        }

        /** All of a set so much (0 to PERIOD less 1) higher, folded. */
        static long turn(long set, int much, int period) {
            return (set << much | set >>> (period - much)) & below(period);
        }
    }

    /** A row of numbers that are cut to one of four sorts. */
    private static final class Tray {
        final long[] numbers = new long[MOST_TONES];
        int sort = 0;
        int many = NONE;

        void empty(int newSort, int newMany) {
            sort = newSort;
            many = newMany;
            for (int i = 0; i < numbers.length; i++) {
                numbers[i] = 0;
            }
        }

        boolean isMissing() {
            return many == NONE;
        }

        boolean hasPlace(int place) {
            return place >= 0 && place < many && place < numbers.length;
        }

        boolean hasRun(int place, int length) {
            // Longs, since the sum of two ints may wrap.
            return place >= 0 && length >= 0 && (long) place + length <= many;
        }

        long at(int place) {
            return hasPlace(place) ? numbers[place] : NONE;
        }

        void put(int place, long v) {
            if (hasPlace(place)) {
                numbers[place] = cut(v);
            }
        }

        private long cut(long v) {
            switch (sort) {
                case 0:
                    return (byte) v;
                case 1:
                    return (short) v;
                case 2:
                    return (int) v;
                default:
                    return v;
            }
        }
    }

    /** A SCALE with all that became of it: its PARTS, what sounds, what was PRESSED. */
    private static final class Scale {
        private final int[] parts = new int[RULES];
        private final int[] pressed = new int[MOST_RECENT];
        private int pressedMany;
        long sounding;
        /** TONES of DEGREES, kept by settle(), since STUDIES ask for them over and over. */
        long degrees;

        Scale() {
            clear();
            settle();
        }

        /** As without any PART; settle() must follow. */
        void clear() {
            System.arraycopy(WITHOUT, 0, parts, 0, RULES);
            pressedMany = 0;
            sounding = 0;
        }

        void becomes(Scale other) {
            System.arraycopy(other.parts, 0, parts, 0, RULES);
            System.arraycopy(other.pressed, 0, pressed, 0, MOST_RECENT);
            pressedMany = other.pressedMany;
            sounding = other.sounding;
            degrees = other.degrees;
        }

        int part(int what) {
            return what >= 0 && what < parts.length ? parts[what] : 0;
        }

        void setPart(int what, int much) {
            if (what >= 0 && what < parts.length) {
                parts[what] = much;
            }
        }

        int period() {
            return parts[PERIOD];
        }

        /** Brings all else in line with PARTS that were changed. */
        void settle() {
            for (int what = 0; what < RULES; what++) {
                if (isBoundByPeriod(what)) {
                    parts[what] = folded(parts[what]);
                }
            }
            sounding &= Bits.below(parts[PERIOD]);
            degrees = stacked(parts[GENERATOR], parts[ROOT], parts[LENGTH]);
        }

        int folded(int number) {
            int period = parts[PERIOD];
            return period > 0 ? Math.floorMod(number, period) : 0;
        }

        boolean isTone(int tone) {
            return tone >= 0 && tone < parts[PERIOD];
        }

        int chainTone(int k) {
            return folded(parts[ROOT] + (k - parts[DOWN]) * parts[GENERATOR]);
        }

        /** The TONES of a CHAIN by another GENERATOR, ROOT, LENGTH, all else as it is. */
        long stacked(int generator, int root, int length) {
            long tones = 0;
            int tone = folded(root - parts[DOWN] * generator);
            for (int k = 0; k < length; k++) {
                tones |= Bits.of(tone);
                tone += generator;
                tone -= tone >= parts[PERIOD] ? parts[PERIOD] : 0;
            }
            return tones;
        }

        int degreesMany() {
            return Long.bitCount(degrees);
        }

        boolean isOfDegree(int tone) {
            return Bits.has(degrees, tone);
        }

        int fitting() {
            return Long.bitCount(sounding & degrees);
        }

        int nominalOf(int k) {
            return parts[NOMINALS] > 0 ? Math.floorMod(k, parts[NOMINALS]) : 0;
        }

        int sharpsOf(int k) {
            return parts[NOMINALS] > 0 ? Math.floorDiv(k, parts[NOMINALS]) : 0;
        }

        int toneOfKey(int x, int y) {
            return folded(x * parts[RIGHT] + y * parts[UP]);
        }

        /** PRESS; false if there is no such TONE, or it sounds. */
        boolean strike(int tone) {
            if (!isTone(tone) || Bits.has(sounding, tone)) {
                return false;
            }
            sounding |= Bits.of(tone);
            System.arraycopy(pressed, 0, pressed, 1, MOST_RECENT - 1);
            pressed[0] = tone;
            pressedMany = Math.min(pressedMany + 1, MOST_RECENT);
            return true;
        }

        /** LIFT; false if it does not sound. */
        boolean release(int tone) {
            if (!Bits.has(sounding, tone)) {
                return false;
            }
            sounding &= ~Bits.of(tone);
            return true;
        }

        /** A new ROOT; false if there is none such, or it is so. */
        boolean moveRoot(int root) {
            if (!isTone(root) || parts[ROOT] == root) {
                return false;
            }
            parts[ROOT] = root;
            degrees = stacked(parts[GENERATOR], root, parts[LENGTH]);
            return true;
        }

        int pressedAt(int k) {
            return k >= 0 && k < pressedMany && k < pressed.length ? pressed[k] : NONE;
        }
    }

    /** TONES one by one round a PERIOD, for what is asked of DEGREES. */
    private static final class Ring {
        private final int[] tones = new int[MOST_TONES];
        private long set;
        private int period;
        int many;

        void gather(long newSet, int newPeriod) {
            set = newSet;
            period = newPeriod;
            many = 0;
            for (int tone = 0; tone < newPeriod && many < tones.length; tone++) {
                if (Bits.has(newSet, tone)) {
                    tones[many] = tone;
                    many++;
                }
            }
        }

        int toneAt(int degree) {
            return degree >= 0 && degree < many && degree < tones.length ? tones[degree] : NONE;
        }

        /** SPAN: whole rounds are PERIODS each, so one difference is left at most. */
        int spanFrom(int degree, int n) {
            if (many < 1) {
                return 0;
            }
            return n / many * period + between(degree, (degree + n) % many);
        }

        private int between(int degree, int other) {
            int apart = toneAt(other) - toneAt(degree);
            return apart < 0 ? apart + period : apart;
        }

        /** How many unlike SPANS by n there are. */
        int spanSorts(int n) {
            if (many < 1) {
                return 0;
            }
            // All have the same whole rounds: what is left of them tells them apart.
            long found = 0;
            for (int d = 0; d < many; d++) {
                found |= Bits.of(between(d, (d + n) % many));
            }
            return Long.bitCount(found);
        }

        long sizes() {
            long found = 0;
            for (int d = 0; d < many; d++) {
                found |= Bits.of(spanFrom(d, 1));
            }
            return found;
        }

        int stepsOf(int size) {
            int found = 0;
            for (int d = 0; d < many; d++) {
                found += spanFrom(d, 1) == size ? 1 : 0;
            }
            return found;
        }

        /** The TONES as they are from a DEGREE on: two are the same just if the MODES are alike. */
        long modeOf(int degree) {
            int tone = toneAt(degree);
            return tone > 0 ? Bits.turn(set, period - tone, period) : set;
        }

        int brightnessOf(int degree) {
            int together = 0;
            for (int d = 0; d < many; d++) {
                together += between(degree, d);
            }
            return together;
        }

        /** How far from one DEGREE all those above another are. */
        long farther(int from, int above) {
            long found = 0;
            for (int d = above + 1; d < many; d++) {
                found |= Bits.of(toneAt(d) - toneAt(from));
            }
            return found;
        }
    }

    /** GUESSES, and ASK. */
    private static final class Guessing {
        /** By GENERATOR: the TONES of all ROOTS by which what sounds is of DEGREES. */
        private final long[] reach = new long[MOST_TONES];
        long found;

        void search(Scale scale) {
            found = 0;
            for (int generator = 0; generator < scale.period() && generator < reach.length; generator++) {
                reach[generator] = reachOf(scale, generator);
                // No set of DEGREES is empty, so an empty reach is of no ROOT.
                found |= reach[generator] != 0 ? Bits.of(generator) : 0;
            }
        }

        private static long reachOf(Scale scale, int generator) {
            long atZero = scale.stacked(generator, 0, scale.part(LENGTH));
            long all = 0;
            for (int root = 0; root < scale.period(); root++) {
                long tones = Bits.turn(atZero, root, scale.period());
                all |= (scale.sounding & ~tones) == 0 ? tones : 0;
            }
            return all;
        }

        /** The TONE to ask for, or NONE; search() comes first. */
        int bestQuestion(Scale scale) {
            int many = Long.bitCount(found);
            int best = NONE;
            int fewest = many + 1;
            for (int tone = 0; tone < scale.period() && many > 1; tone++) {
                if (!Bits.has(scale.sounding, tone)) {
                    int stay = staying(tone, scale.period());
                    int worst = Math.max(stay, many - stay);
                    if (worst < fewest) {
                        fewest = worst;
                        best = tone;
                    }
                }
            }
            return best;
        }

        private int staying(int tone, int period) {
            int many = 0;
            for (int generator = 0; generator < period && generator < reach.length; generator++) {
                many += Bits.has(reach[generator], tone) ? 1 : 0;
            }
            return many;
        }
    }

    /** WAY through at most seven TONES. */
    private static final class Walk {
        private final int[] tones = new int[MOST_ON_WAY];
        private final int[] order = new int[MOST_ON_WAY];
        /** The fewest that are still to go, by those gone through (bits) and the one stood on. */
        private final int[] toGo = new int[(1 << MOST_ON_WAY) * MOST_ON_WAY];
        private int many;
        private int period;

        void lay(long sounding, int newPeriod) {
            period = newPeriod;
            many = 0;
            for (int tone = 0; tone < newPeriod && many < MOST_ON_WAY; tone++) {
                if (Bits.has(sounding, tone)) {
                    tones[many] = tone;
                    many++;
                }
            }
            // More that are gone through first: each looks at those with one more.
            for (int gone = (1 << many) - 1; gone > 0; gone--) {
                for (int at = 0; at < many; at++) {
                    setToGo(gone, at, fewestFrom(gone, at));
                }
            }
            putInOrder();
        }

        int length() {
            return many < 2 ? 0 : getToGo(1, 0);
        }

        int stopAt(int k) {
            return k >= 0 && k < many && k < order.length ? order[k] : NONE;
        }

        private int fewestFrom(int gone, int at) {
            int fewest = NONE;
            for (int next = 0; next < many; next++) {
                if (!Bits.has(gone, next)) {
                    int far = farBy(gone, at, next);
                    fewest = fewest == NONE ? far : Math.min(fewest, far);
                }
            }
            return fewest == NONE ? 0 : fewest;
        }

        private int farBy(int gone, int at, int next) {
            return apart(at, next) + getToGo(gone | 1 << next, next);
        }

        private void putInOrder() {
            int gone = 1;
            int at = 0;
            order[0] = tones[0];
            for (int k = 1; k < many; k++) {
                // The first that does: so the row is the first by TONES.
                int next = 0;
                while (next < many - 1 && (Bits.has(gone, next) || farBy(gone, at, next) != getToGo(gone, at))) {
                    next++;
                }
                order[k] = tones[next];
                gone |= 1 << next;
                at = next;
            }
        }

        private int apart(int one, int other) {
            boolean areThere = one >= 0 && one < MOST_ON_WAY && other >= 0 && other < MOST_ON_WAY;
            int far = areThere ? Math.abs(tones[one] - tones[other]) : 0;
            return Math.min(far, period - far);
        }

        private int getToGo(int gone, int at) {
            int index = gone * MOST_ON_WAY + at;
            return index >= 0 && index < toGo.length ? toGo[index] : 0;
        }

        private void setToGo(int gone, int at, int much) {
            int index = gone * MOST_ON_WAY + at;
            if (index >= 0 && index < toGo.length) {
                toGo[index] = much;
            }
        }
    }

    /** The tape, its TOKENS one by one, and the FAULT that was found. */
    private static final class Reader {
        private final byte[] tape = new byte[MOST_TAPE];
        int fed = 0;
        private int end = 0;
        private int at = 0;
        int sort = END_OF_TEXT;
        private int start = 0;
        int value = 0;
        int fault = NONE;
        int faultPlace = NONE;

        /** Four bytes, the highest first. */
        void append(int four) {
            for (int shift = 24; shift >= 0 && fed < tape.length; shift -= 8) {
                tape[fed] = (byte) (four >> shift);
                fed++;
            }
        }

        void begin(int length) {
            end = length;
            at = 0;
            fault = 0;
            faultPlace = NONE;
        }

        /** Always false, for those that tell whether it goes on. */
        boolean blame(int kind) {
            fault = kind;
            faultPlace = start;
            return false;
        }

        /** Goes to the next TOKEN; false (with its FAULT) if none begins so. */
        boolean next() {
            while (at < end && isBlank(byteAt(at))) {
                at++;
            }
            start = at;
            int first = byteAt(at);
            if (at >= end) {
                sort = END_OF_TEXT;
            } else if (isLetter(first)) {
                passWord();
            } else if (isDigit(first)) {
                passNumber();
            } else if (isSign(first)) {
                sort = SIGN;
                value = first;
                at++;
            } else {
                sort = NO_TOKEN;
            }
            return sort != NO_TOKEN || blame(BEGINS_SO);
        }

        private void passWord() {
            sort = WORD;
            while (at < end && isLetter(byteAt(at))) {
                at++;
            }
        }

        private void passNumber() {
            sort = NUMBER;
            value = 0;
            while (at < end && isDigit(byteAt(at))) {
                // What is longer than four digits is no TOKEN: its value must not run over.
                value = at - start < 4 ? value * 10 + byteAt(at) - '0' : value;
                at++;
            }
            if (at - start > 4) {
                sort = NO_TOKEN;
            }
        }

        boolean isWord(String word) {
            if (sort != WORD || at - start != word.length()) {
                return false;
            }
            for (int i = 0; i < word.length(); i++) {
                if (byteAt(start + i) != word.charAt(i)) {
                    return false;
                }
            }
            return true;
        }

        boolean isSignNow(char sign) {
            return sort == SIGN && value == sign;
        }

        /** The next TOKEN must be a NUMBER by these bounds. */
        boolean takeNumber(int least, int most) {
            if (!next()) {
                return false;
            }
            if (sort != NUMBER) {
                return blame(STANDS_THERE);
            }
            return value >= least && value <= most || blame(NUMBER_CANNOT_BE);
        }

        boolean takeSemicolon() {
            return next() && (isSignNow(';') || blame(STANDS_THERE));
        }

        private int byteAt(int place) {
            return place >= 0 && place < tape.length ? tape[place] & 255 : 0;
        }

        private static boolean isBlank(int sign) {
            return sign == 10 || sign == 32;
        }

        private static boolean isLetter(int sign) {
            return sign >= 'a' && sign <= 'z';
        }

        private static boolean isDigit(int sign) {
            return sign >= '0' && sign <= '9';
        }

        private static boolean isSign(int sign) {
            return sign == ';' || sign == '<' || sign == '>' || sign == '=';
        }
    }

    /** Takes a SCALE from its text into a draft, so that the old one stays by a FAULT. */
    private static final class ScaleText {
        private final Reader reader;
        final Scale draft = new Scale();
        private long toldParts = 0;

        ScaleText(Reader reader) {
            this.reader = reader;
        }

        boolean parse(int length) {
            reader.begin(length);
            draft.clear();
            toldParts = 0;
            // Each PART has a byte at least, so there are no more turns than bytes.
            for (int turn = 0; turn <= MOST_TAPE; turn++) {
                if (!reader.next()) {
                    return false;
                }
                if (reader.sort == END_OF_TEXT) {
                    draft.settle();
                    return true;
                }
                if (!takePart(partNow())) {
                    return false;
                }
            }
            return reader.blame(STANDS_THERE);
        }

        private boolean takePart(int part) {
            if (part == NONE) {
                return reader.blame(STANDS_THERE);
            }
            if (isTooLate(part)) {
                return reader.blame(TOLD_ALREADY);
            }
            toldParts |= Bits.of(part);
            if (part == SOUNDS) {
                return takeSounds();
            }
            if (!reader.takeNumber(leastOf(part), mostOf(part, draft.period()))) {
                return false;
            }
            draft.setPart(part, reader.value);
            return reader.takeSemicolon();
        }

        private boolean isTooLate(int part) {
            if (part == PERIOD) {
                long behind = Bits.of(GENERATOR) | Bits.of(ROOT) | Bits.of(RIGHT) | Bits.of(UP) | Bits.of(SOUNDS);
                return (toldParts & (behind | Bits.of(PERIOD))) != 0;
            }
            return part != SOUNDS && Bits.has(toldParts, part);
        }

        private boolean takeSounds() {
            for (int turn = 0; turn <= MOST_TAPE; turn++) {
                if (!reader.next()) {
                    return false;
                }
                if (reader.isSignNow(';')) {
                    return true;
                }
                if (reader.sort != NUMBER) {
                    return reader.blame(STANDS_THERE);
                }
                if (!draft.isTone(reader.value)) {
                    return reader.blame(NUMBER_CANNOT_BE);
                }
                if (Bits.has(draft.sounding, reader.value)) {
                    return reader.blame(TOLD_ALREADY);
                }
                draft.sounding |= Bits.of(reader.value);
            }
            return reader.blame(STANDS_THERE);
        }

        private int partNow() {
            if (reader.isWord("odds")) {
                return ODDS;
            }
            if (reader.isWord("period")) {
                return PERIOD;
            }
            if (reader.isWord("generator")) {
                return GENERATOR;
            }
            if (reader.isWord("length")) {
                return LENGTH;
            }
            if (reader.isWord("down")) {
                return DOWN;
            }
            if (reader.isWord("root")) {
                return ROOT;
            }
            if (reader.isWord("nominals")) {
                return NOMINALS;
            }
            if (reader.isWord("right")) {
                return RIGHT;
            }
            if (reader.isWord("up")) {
                return UP;
            }
            return reader.isWord("sounds") ? SOUNDS : NONE;
        }
    }

    /** STEPS of the STUDIES in the order of the text. */
    private static final class Studies {
        final int[] kinds = new int[MOST_STEPS];
        final int[] tests = new int[MOST_STEPS];
        final int[] numbers = new int[MOST_STEPS];
        /** The STEP behind the end of a hold, when, loop. */
        final int[] behind = new int[MOST_STEPS];
        int many = 0;
        /** STUDIES without a STEP are there all the same, once they are told. */
        boolean areThere = false;

        void becomes(Studies other) {
            System.arraycopy(other.kinds, 0, kinds, 0, MOST_STEPS);
            System.arraycopy(other.tests, 0, tests, 0, MOST_STEPS);
            System.arraycopy(other.numbers, 0, numbers, 0, MOST_STEPS);
            System.arraycopy(other.behind, 0, behind, 0, MOST_STEPS);
            many = other.many;
            areThere = other.areThere;
        }

        boolean hasStep(int at) {
            return at >= 0 && at < many && at < MOST_STEPS;
        }
    }

    /** Takes STUDIES from their text into a draft. */
    private static final class StudyText {
        private final Reader reader;
        final Studies draft = new Studies();
        private final int[] open = new int[MOST_WITHIN];
        private int depth = 0;

        StudyText(Reader reader) {
            this.reader = reader;
        }

        boolean parse(int length) {
            reader.begin(length);
            draft.many = 0;
            draft.areThere = true;
            depth = 0;
            for (int turn = 0; turn <= MOST_STUDY_TEXT; turn++) {
                if (!reader.next()) {
                    return false;
                }
                if (reader.sort == END_OF_TEXT) {
                    return depth == 0 || reader.blame(STANDS_THERE);
                }
                boolean goesOn = reader.isWord("end") ? takeEnd() : takeStep(kindNow());
                if (!goesOn) {
                    return false;
                }
            }
            return reader.blame(STANDS_THERE);
        }

        private boolean takeEnd() {
            if (depth < 1 || depth > MOST_WITHIN) {
                return reader.blame(STANDS_THERE);
            }
            depth--;
            int opened = open[depth];
            if (draft.hasStep(opened)) {
                draft.behind[opened] = draft.many;
            }
            return reader.takeSemicolon();
        }

        private boolean takeStep(int kind) {
            if (kind == NONE) {
                return reader.blame(STANDS_THERE);
            }
            int at = draft.many;
            if (at < 0 || at >= MOST_STEPS) {
                return reader.blame(STEP_TOO_MANY);
            }
            boolean opens = kind == HOLD || kind == WHEN || kind == LOOP;
            if (opens && (depth < 0 || depth >= MOST_WITHIN)) {
                return reader.blame(TOO_DEEP);
            }
            draft.kinds[at] = kind;
            draft.tests[at] = NONE;
            draft.behind[at] = at + 1;
            draft.many++;
            if (opens) {
                open[depth] = at;
                depth++;
            }
            if (kind == WHEN && !takeTest(at)) {
                return false;
            }
            boolean isBare = kind == ANY || kind == LEAVE || kind == STOP;
            if (!isBare && !reader.takeNumber(kind == LOOP ? 1 : 0, mostNumber(kind, draft.tests[at]))) {
                return false;
            }
            draft.numbers[at] = isBare ? 0 : reader.value;
            return reader.takeSemicolon();
        }

        /** What stands between when and its NUMBER. */
        private boolean takeTest(int at) {
            if (!reader.next()) {
                return false;
            }
            boolean isFit = reader.isWord("fit");
            if (isFit && !reader.next()) {
                return false;
            }
            draft.tests[at] = isFit ? comparesNow() : toneTestNow();
            return draft.tests[at] != NONE || reader.blame(STANDS_THERE);
        }

        private int toneTestNow() {
            if (reader.isWord("sounds")) {
                return IF_SOUNDS;
            }
            return reader.isWord("degree") ? IF_DEGREE : NONE;
        }

        private int comparesNow() {
            if (reader.isSignNow('<')) {
                return IF_FIT_BELOW;
            }
            if (reader.isSignNow('>')) {
                return IF_FIT_ABOVE;
            }
            return reader.isSignNow('=') ? IF_FIT_EQUALS : NONE;
        }

        private static int mostNumber(int kind, int test) {
            if (kind == LOOP) {
                return MOST_LOOP;
            }
            return test >= IF_FIT_BELOW ? MOST_TONES : MOST_TONES - 1;
        }

        private int kindNow() {
            if (reader.isWord("press")) {
                return PRESS;
            }
            if (reader.isWord("lift")) {
                return LIFT;
            }
            if (reader.isWord("root")) {
                return SET_ROOT;
            }
            if (reader.isWord("any")) {
                return ANY;
            }
            if (reader.isWord("hold")) {
                return HOLD;
            }
            if (reader.isWord("when")) {
                return WHEN;
            }
            if (reader.isWord("loop")) {
                return LOOP;
            }
            if (reader.isWord("leave")) {
                return LEAVE;
            }
            return reader.isWord("stop") ? STOP : NONE;
        }
    }

    /** STUDIES that are LIVED, and what is told of it. */
    private static final class Life {
        private final Scale scale;
        private final Studies studies;
        private int draws = 0;
        private int at = 0;
        private boolean isOver = false;
        /** Holds and loops that are not ended yet, and how often a loop's inside is still to be done. */
        private final int[] open = new int[MOST_WITHIN];
        private final int[] rounds = new int[MOST_WITHIN];
        private int depth = 0;
        boolean wasRun = false;
        int done = 0;
        private int missed = 0;
        private int struck = 0;
        private int released = 0;
        private int letGo = 0;
        private boolean wasCut = false;
        private final int[] log = new int[MOST_LOG];

        Life(Scale scale, Studies studies) {
            this.scale = scale;
            this.studies = studies;
        }

        void run(int seed) {
            draws = seed;
            at = 0;
            isOver = false;
            depth = 0;
            wasRun = true;
            done = 0;
            missed = 0;
            struck = 0;
            released = 0;
            letGo = 0;
            wasCut = false;
            for (int turn = 0; turn < MOST_TURNS && !isOver; turn++) {
                if (isAtEnd()) {
                    endInnermost();
                } else if (comesToStep()) {
                    doStep(at);
                }
            }
            letAllGo();
        }

        /** What lived() tells, by its numbers. */
        int count(int what) {
            switch (what) {
                case 0:
                    return missed;
                case 1:
                    return struck;
                case 2:
                    return released;
                case 3:
                    return letGo;
                default:
                    return wasCut ? 1 : 0;
            }
        }

        int letGoAt(int k) {
            return k >= 0 && k < letGo && k < log.length ? log[k] : NONE;
        }

        private int innermost() {
            return depth > 0 && depth <= MOST_WITHIN ? open[depth - 1] : NONE;
        }

        private boolean isAtEnd() {
            int opened = innermost();
            return studies.hasStep(opened) && at == studies.behind[opened];
        }

        private void endInnermost() {
            int opened = innermost();
            if (!studies.hasStep(opened)) {
                isOver = true;
            } else if (studies.kinds[opened] == HOLD) {
                depth--;
                dropHeld(studies.numbers[opened]);
            } else {
                rounds[depth - 1]--;
                if (rounds[depth - 1] > 0) {
                    at = opened + 1;
                } else {
                    depth--;
                }
            }
        }

        private boolean comesToStep() {
            boolean isStep = studies.hasStep(at);
            wasCut = isStep && done >= MOST_DONE;
            isOver = !isStep || wasCut;
            done += isOver ? 0 : 1;
            return !isOver;
        }

        private void doStep(int step) {
            int number = studies.numbers[step];
            at = step + 1;
            switch (studies.kinds[step]) {
                case PRESS:
                    strikeOrMiss(number);
                    break;
                case LIFT:
                    releaseOrMiss(number);
                    break;
                case SET_ROOT:
                    missed += scale.moveRoot(number) ? 0 : 1;
                    break;
                case ANY:
                    doAny();
                    break;
                case HOLD:
                    enterIf(strikeOrMiss(number), step, 1);
                    break;
                case WHEN:
                    // Nothing is done at its end, so it need not be open.
                    at = isSo(studies.tests[step], number) ? step + 1 : studies.behind[step];
                    break;
                case LOOP:
                    // With nothing inside it is nothing, however often.
                    enterIf(studies.behind[step] > step + 1, step, number);
                    break;
                case LEAVE:
                    leaveHold();
                    break;
                default:
                    isOver = true;
                    break;
            }
        }

        private void enterIf(boolean isDone, int step, int often) {
            if (isDone && depth >= 0 && depth < MOST_WITHIN) {
                open[depth] = step;
                rounds[depth] = often;
                depth++;
            } else {
                at = studies.behind[step];
            }
        }

        private boolean strikeOrMiss(int tone) {
            boolean could = scale.strike(tone);
            struck += could ? 1 : 0;
            missed += could ? 0 : 1;
            return could;
        }

        private void releaseOrMiss(int tone) {
            boolean could = scale.release(tone);
            released += could ? 1 : 0;
            missed += could ? 0 : 1;
        }

        private void doAny() {
            int tone = draw(scale.period());
            if (draw(16) < scale.part(ODDS)) {
                releaseOrMiss(tone);
            } else {
                strikeOrMiss(tone);
            }
        }

        private int draw(int n) {
            draws = (draws * 3293 + 11527) % 65536;
            return n > 0 ? draws / 8 % n : 0;
        }

        private boolean isSo(int test, int number) {
            switch (test) {
                case IF_SOUNDS:
                    return Bits.has(scale.sounding, number);
                case IF_DEGREE:
                    return scale.isOfDegree(number);
                case IF_FIT_BELOW:
                    return scale.fitting() < number;
                case IF_FIT_ABOVE:
                    return scale.fitting() > number;
                default:
                    return scale.fitting() == number;
            }
        }

        /** Goes to the end of the innermost hold, where it is let go as ever. */
        private void leaveHold() {
            for (int left = depth; left > 0; left--) {
                int opened = innermost();
                if (studies.hasStep(opened) && studies.kinds[opened] == HOLD) {
                    at = studies.behind[opened];
                    return;
                }
                depth--;
            }
            isOver = true;
        }

        private void letAllGo() {
            for (int left = depth; left > 0; left--) {
                int opened = innermost();
                if (studies.hasStep(opened) && studies.kinds[opened] == HOLD) {
                    dropHeld(studies.numbers[opened]);
                }
                depth--;
            }
        }

        private void dropHeld(int tone) {
            scale.release(tone);
            if (letGo >= 0 && letGo < log.length) {
                log[letGo] = tone;
            }
            letGo++;
        }
    }
}
