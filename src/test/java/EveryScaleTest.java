import java.util.ArrayList;
import java.util.Collections;
import java.util.HashSet;
import java.util.List;
import java.util.Random;
import java.util.Set;
import java.util.TreeSet;

/**
 * Each PERIOD, GENERATOR and LENGTH that there can be (with a DOWN and a ROOT by a fixed seed), by the words of the
 * document alone: STEPS are added up one by one, rows are compared as rows.
 */
public final class EveryScaleTest extends Bench {
    private static final Random RANDOM = new Random(11);
    private static int period;
    private static int generator;
    private static int length;
    private static int down;
    private static int root;
    private static ScaleForge forge;
    private static List<Integer> degrees;
    private static List<Integer> steps;

    public static void main(String[] args) {
        for (period = 2; period <= 60; period++) {
            for (generator = 0; generator < period; generator++) {
                for (length = 1; length <= 24; length++) {
                    prepare();
                    toldAsRuled();
                    sizes();
                    spans();
                    modes();
                    tones();
                    shapes();
                    common();
                    lengths();
                    flipped();
                }
            }
        }
        finish();
    }

    private static void prepare() {
        down = RANDOM.nextInt(24);
        root = RANDOM.nextInt(period);
        forge = new ScaleForge();
        int[] parts = {period, generator, length, down, root};
        for (int i = 0; i < parts.length; i++) {
            forge.rule(i + 1, parts[i]);
        }
        degrees = degreesBy(length, root);
        steps = stepsOf(degrees);
    }

    private static List<Integer> degreesBy(int length, int root) {
        TreeSet<Integer> found = new TreeSet<>();
        for (int k = 0; k < length; k++) {
            found.add(Math.floorMod(root + (k - down) * generator, period));
        }
        return new ArrayList<>(found);
    }

    private static List<Integer> stepsOf(List<Integer> tones) {
        List<Integer> found = new ArrayList<>();
        for (int d = 0; d + 1 < tones.size(); d++) {
            found.add(tones.get(d + 1) - tones.get(d));
        }
        found.add(period + tones.get(0) - tones.get(tones.size() - 1));
        return found;
    }

    private static int span(int degree, int n) {
        int together = 0;
        for (int i = 0; i < n; i++) {
            together += steps.get((degree + i) % steps.size());
        }
        return together;
    }

    private static void toldAsRuled() {
        at(21);
        int[] parts = {4, period, generator, length, down, root, 7, 2 % period, 1};
        for (int what = 0; what < parts.length; what++) {
            is(forge.told(what), parts[what]);
        }
        is(forge.told(9), degrees.size());
    }

    private static void sizes() {
        at(13);
        List<Integer> sizes = new ArrayList<>(new TreeSet<>(steps));
        is(forge.told(10), sizes.size());
        // 'What it is' says so: steps of three sizes at most.
        is(forge.told(10) <= 3, true);
        at(19);
        for (int k = 0; k < sizes.size(); k++) {
            is(forge.sizeAt(k), sizes.get(k));
            is(forge.sizeMany(k), Collections.frequency(steps, sizes.get(k)));
        }
        no(forge, forge.sizeAt(sizes.size()), 6);
        at(58);
        is(forge.ratio(), true);
        is(forge.top() * sizes.get(0), forge.bottom() * sizes.get(sizes.size() - 1));
    }

    private static void spans() {
        boolean areTwo = degrees.size() > 1;
        for (int n = 1; n <= 24; n++) {
            Set<Integer> unlike = new HashSet<>();
            for (int d = 0; d < degrees.size(); d++) {
                unlike.add(span(d, n));
            }
            at(29);
            is(forge.variety(n), unlike.size());
            at(18);
            int degree = n % degrees.size();
            is(forge.span(degree, n), span(degree, n));
            areTwo &= n >= degrees.size() || unlike.size() == 2;
        }
        at(30);
        is(forge.myhill(), areTwo ? 1 : 0);
    }

    private static void modes() {
        Set<List<Integer>> unlike = new HashSet<>();
        List<Integer> order = new ArrayList<>();
        List<Integer> bright = new ArrayList<>();
        for (int d = 0; d < degrees.size(); d++) {
            List<Integer> mode = new ArrayList<>(steps);
            Collections.rotate(mode, -d);
            unlike.add(mode);
            order.add(d);
            int together = 0;
            for (int n = 1; n < degrees.size(); n++) {
                together += span(d, n);
            }
            bright.add(together);
            at(34);
            is(forge.alike(0, d), mode.equals(steps) ? 1 : 0);
            at(35);
            is(forge.brightness(d), together);
        }
        at(33);
        is(forge.modes(), unlike.size());
        at(36);
        order.sort((one, other) -> bright.get(one) - bright.get(other));
        for (int k = 0; k < order.size(); k++) {
            is(forge.modeBy(k), order.get(k));
        }
    }

    private static void tones() {
        for (int d = 0; d < degrees.size(); d++) {
            at(15);
            is(forge.tone(d), degrees.get(d));
            at(17);
            is(forge.step(d), steps.get(d));
        }
        for (int tone = 0; tone < period; tone++) {
            at(16);
            is(forge.degree(tone), degrees.indexOf(tone));
            at(46);
            is(forge.nearest(tone), nearest(tone));
        }
    }

    private static int nearest(int tone) {
        int best = 0;
        int fewest = Integer.MAX_VALUE;
        for (int d = 0; d < degrees.size(); d++) {
            int below = Math.floorMod(tone - degrees.get(d), period);
            int above = Math.floorMod(degrees.get(d) - tone, period);
            // Going down comes first of two that are as far.
            int far = Math.min(2 * below, 2 * above + 1);
            if (far < fewest) {
                fewest = far;
                best = d;
            }
        }
        return best;
    }

    private static void shapes() {
        at(55);
        Set<Integer> pairs = new HashSet<>();
        Set<Integer> triples = new HashSet<>();
        for (int a = 0; a < degrees.size(); a++) {
            for (int b = a + 1; b < degrees.size(); b++) {
                int second = degrees.get(b) - degrees.get(a);
                pairs.add(second);
                for (int c = b + 1; c < degrees.size(); c++) {
                    triples.add(100 * second + degrees.get(c) - degrees.get(a));
                }
            }
        }
        is(forge.shapes(1), 1);
        is(forge.shapes(2), pairs.size());
        is(forge.shapes(3), triples.size());
    }

    private static void common() {
        at(52);
        int other = RANDOM.nextInt(period);
        Set<Integer> both = new HashSet<>(degreesBy(length, other));
        both.retainAll(degrees);
        is(forge.common(other), both.size());
    }

    private static void lengths() {
        at(31);
        List<Integer> wellFormed = new ArrayList<>();
        for (int n = 2; n <= 24; n++) {
            List<Integer> tones = degreesBy(n, root);
            if (tones.size() == n && new HashSet<>(stepsOf(tones)).size() <= 2) {
                wellFormed.add(n);
            }
        }
        is(forge.lengths(), wellFormed.size());
        at(32);
        for (int k = 0; k < wellFormed.size(); k++) {
            is(forge.lengthAt(k), wellFormed.get(k));
        }
        no(forge, forge.lengthAt(wellFormed.size()), 6);
    }

    private static void flipped() {
        at(26);
        if (down >= length) {
            no(forge, forge.flip(), 7);
            return;
        }
        is(forge.flip(), degrees.size());
        is(forge.told(2), (period - generator) % period);
        is(forge.told(4), length - 1 - down);
        for (int d = 0; d < degrees.size(); d++) {
            is(forge.tone(d), degrees.get(d));
        }
    }
}
