import java.util.HashSet;
import java.util.Set;

/** Each sentence of promises 29 to 68 (what is asked, STUDIES, MARKS) with its boundary cases. */
public final class AskingBoundariesTest extends Bench {
    public static void main(String[] args) {
        varieties();
        lengths();
        modes();
        brightness();
        names();
        simplest();
        keys();
        keysOfTones();
        fitting();
        guesses();
        asking();
        common();
        ways();
        shapes();
        convergents();
        ratios();
        odds();
        copying();
        stepping();
        living();
        lived();
        logs();
        means();
        marks();
        undoing();
        areQuotedWhole(29, 68);
        finish();
    }

    private static ScaleForge plain() {
        return new ScaleForge();
    }

    private static ScaleForge four() {
        // 0 2 7 9: 2 5 2 3.
        return of("length 4;");
    }

    private static ScaleForge one() {
        return of("length 1;");
    }

    // ---- 29 to 36

    private static void varieties() {
        promise(29, "VARIETY of n (1 to 24)", () -> {
            ScaleForge f = four();
            yes(f, f.variety(1), 3);
            yes(f, f.variety(4), 1);
            yes(f, f.variety(23), 3);
            yes(f, f.variety(24), 1);
            f = one();
            yes(f, f.variety(24), 1);
            // 24 DEGREES of 60 by 7: by 24 all are PERIOD.
            is(of("period 60;length 24;").variety(24), 1);
        });
        promise(29, "(1).", () -> bounds(AskingBoundariesTest::plain, 1, 24, 1, (f, n) -> f.variety(n)));
        promise(30, "1 if it is MYHILL, else 0.", () -> {
            is(of("").myhill(), 1);
            is(of("length 5;").myhill(), 1);
            is(of("length 2;").myhill(), 1);
            is(one().myhill(), 0);
            is(four().myhill(), 0);
            is(of("length 2;generator 6;").myhill(), 0);
            is(of("length 12;").myhill(), 0);
            // 11 of 12: one STEP of 2.
            is(of("length 11;").myhill(), 1);
            // 0 1 3 4 6 7 of 8: two SIZES, but three unlike SPANS by 3.
            is(of("period 8;generator 3;length 6;").myhill(), 0);
        });
    }

    private static void lengths() {
        promise(31, "How many LENGTHS from 2 to 24 are WELL FORMED.", () -> {
            is(of("").lengths(), 9);
            is(one().lengths(), 9);
            is(of("generator 0;").lengths(), 0);
            is(of("period 2;").lengths(), 1);
            // 1 is none of them, 25 neither.
            is(of("period 60;generator 1;").lengths(), 23);
        });
        promise(32, "The k-th of these, from 0 on, rising", () -> {
            ScaleForge f = of("period 31;generator 18;");
            int[] due = {2, 3, 5, 7, 12, 19, 20, 21, 22, 23, 24};
            for (int k = 0; k < due.length; k++) {
                yes(f, f.lengthAt(k), due[k]);
            }
        });
        promise(32, "(6: no such, below 0, too).", () -> {
            bounds(AskingBoundariesTest::plain, 0, 8, 6, (f, n) -> f.lengthAt(n));
            bounds(() -> of("period 60;generator 1;"), 0, 22, 6, (f, n) -> f.lengthAt(n));
            ScaleForge f = of("generator 0;");
            no(f, f.lengthAt(0), 6);
        });
    }

    private static void modes() {
        promise(33, "How many unlike MODES there are.", () -> {
            is(one().modes(), 1);
            is(of("length 12;").modes(), 1);
            is(of("").modes(), 7);
            is(four().modes(), 4);
            is(of("period 60;length 24;").modes(), 24);
            is(of("generator 6;length 2;").modes(), 1);
            is(of("length 2;").modes(), 2);
            is(of("length 2;root 1;").modes(), 2);
            is(of("length 12;root 1;").modes(), 1);
        });
        promise(34, "1 if the MODES of two DEGREES are alike, else 0", () -> {
            ScaleForge f = new ScaleForge();
            yes(f, f.alike(6, 6), 1);
            yes(f, f.alike(0, 6), 0);
            yes(f, f.alike(6, 0), 0);
            is(of("length 12;root 5;").alike(0, 11), 1);
            is(one().alike(0, 0), 1);
        });
        promise(34, "(1).", () -> {
            bounds(AskingBoundariesTest::plain, 0, 6, 1, (f, n) -> f.alike(n, 0));
            bounds(AskingBoundariesTest::plain, 0, 6, 1, (f, n) -> f.alike(0, n));
            bounds(AskingBoundariesTest::one, 0, 0, 1, (f, n) -> f.alike(n, n));
        });
    }

    private static void brightness() {
        promise(35, "BRIGHTNESS of the MODE of a DEGREE", () -> {
            ScaleForge f = four();
            yes(f, f.brightness(0), 2 + 7 + 9);
            yes(f, f.brightness(3), 3 + 5 + 10);
            is(one().brightness(0), 0);
            is(of("length 12;").brightness(11), 66);
        });
        promise(35, "(1).", () -> {
            bounds(AskingBoundariesTest::plain, 0, 6, 1, (f, n) -> f.brightness(n));
            bounds(AskingBoundariesTest::one, 0, 0, 1, (f, n) -> f.brightness(n));
        });
        promise(36, "The DEGREE whose MODE is k-th, from 0 on, by BRIGHTNESS rising, of several the least first", () -> {
            // 18, 5 and 7 and 10, 2 and 5 and 7, 18.
            ScaleForge f = four();
            int[] due = {2, 0, 3, 1};
            for (int k = 0; k < due.length; k++) {
                yes(f, f.modeBy(k), due[k]);
            }
            f = of("length 12;");
            yes(f, f.modeBy(0), 0);
            yes(f, f.modeBy(11), 11);
            is(one().modeBy(0), 0);
        });
        promise(36, "(6: no such, below 0, too).", () -> {
            bounds(AskingBoundariesTest::plain, 0, 6, 6, (f, n) -> f.modeBy(n));
            bounds(AskingBoundariesTest::one, 0, 0, 6, (f, n) -> f.modeBy(n));
        });
    }

    // ---- 37 to 41

    private static void names() {
        promise(37, "The NOMINAL of k (-60 to 60)", () -> {
            ScaleForge f = of("nominals 7;");
            yes(f, f.nominal(-60), 3);
            yes(f, f.nominal(60), 4);
            yes(f, f.nominal(-7), 0);
            yes(f, f.nominal(-1), 6);
            yes(f, f.nominal(0), 0);
            is(of("nominals 1;").nominal(-60), 0);
        });
        promise(37, "(1).", () -> bounds(AskingBoundariesTest::plain, -60, 60, 1, (f, n) -> f.nominal(n)));
        promise(38, "SHARPS of k (-60 to 60)", () -> {
            ScaleForge f = of("nominals 7;");
            yes(f, f.sharps(-60), -9);
            yes(f, f.sharps(60), 8);
            yes(f, f.sharps(-7), -1);
            yes(f, f.sharps(-1), -1);
            yes(f, f.sharps(0), 0);
            f = of("nominals 1;");
            yes(f, f.sharps(-60), -60);
            yes(f, f.sharps(60), 60);
        });
        promise(38, "(1).", () -> bounds(AskingBoundariesTest::plain, -60, 60, 1, (f, n) -> f.sharps(n)));
        promise(39, "The TONE of a NOMINAL with SHARPS (-9 to 9)", () -> {
            // CHAIN of 69 and of -63, beyond those that chain() tells.
            ScaleForge f = of("period 60;generator 1;");
            yes(f, f.named(6, 9), 9);
            yes(f, f.named(0, -9), 57);
            yes(f, f.named(0, 0), 0);
            f = of("period 60;generator 59;down 23;root 59;");
            yes(f, f.named(0, -9), Math.floorMod(59 + 86, 60));
            yes(f, f.named(6, 9), Math.floorMod(59 - 46, 60));
        });
        promise(39, "(1).", () -> {
            bounds(AskingBoundariesTest::plain, 0, 6, 1, (f, n) -> f.named(n, 0));
            bounds(() -> of("nominals 1;"), 0, 0, 1, (f, n) -> f.named(n, 0));
            bounds(AskingBoundariesTest::plain, -9, 9, 1, (f, n) -> f.named(0, n));
        });
    }

    private static void simplest() {
        promise(40, "The simplest NAME of a TONE: of all k from -60 to 60 that with the fewest SHARPS, without sign, of several "
            + "the least k; what 0: the NOMINAL, 1: SHARPS, 2: k", () -> {
            // 1 is 7 with one sharp, and -5 with one flat.
            ScaleForge f = new ScaleForge();
            yes(f, f.simplest(1, 2), -5);
            yes(f, f.simplest(1, 1), -1);
            yes(f, f.simplest(1, 0), 2);
            yes(f, f.simplest(11, 2), 5);
            yes(f, f.simplest(11, 1), 0);
            // Without SHARPS twice: the least k.
            f = of("generator 6;");
            yes(f, f.simplest(0, 2), 0);
            yes(f, f.simplest(6, 2), 1);
            // At the ends of k: 60 of 61 TONES up and down.
            f = of("period 60;generator 1;nominals 1;");
            yes(f, f.simplest(30, 2), -30);
            yes(f, f.simplest(29, 2), 29);
            f = of("period 60;generator 1;nominals 1;root 1;");
            yes(f, f.simplest(0, 2), -1);
            // -60 is a NAME: by DOWN it alone is near, 60 likewise.
            f = of("period 59;generator 1;nominals 7;");
            yes(f, f.simplest(58, 2), -1);
        });
        promise(40, "(1;", () -> {
            bounds(AskingBoundariesTest::plain, 0, 11, 1, (f, n) -> f.simplest(n, 0));
            bounds(AskingBoundariesTest::plain, 0, 2, 1, (f, n) -> f.simplest(0, n));
        });
        promise(40, "6: none).", () -> {
            ScaleForge f = of("generator 6;");
            no(f, f.simplest(1, 0), 6);
            no(f, f.simplest(11, 2), 6);
            f = of("generator 0;root 5;");
            no(f, f.simplest(0, 1), 6);
            yes(f, f.simplest(5, 2), 0);
        });
        promise(41, "In how many k from -60 to 60 a TONE has a NAME", () -> {
            ScaleForge f = new ScaleForge();
            yes(f, f.names(0), 11);
            yes(f, f.names(1), 10);
            f = of("generator 0;root 4;");
            yes(f, f.names(4), 121);
            yes(f, f.names(3), 0);
            // -60, 0, 60.
            f = of("period 60;generator 1;");
            yes(f, f.names(0), 3);
            yes(f, f.names(59), 2);
        });
        promise(41, "(1).", () -> bounds(AskingBoundariesTest::plain, 0, 11, 1, (f, n) -> f.names(n)));
    }

    // ---- 42 to 45

    private static void keys() {
        promise(42, "The TONE of a KEY", () -> {
            ScaleForge f = of("period 60;right 59;up 58;root 7;");
            yes(f, f.keyTone(0, 0), 0);
            yes(f, f.keyTone(11, 0), 60 - 11);
            yes(f, f.keyTone(0, 5), 60 - 10);
            yes(f, f.keyTone(11, 5), 60 - 21);
        });
        promise(42, "(1).", () -> {
            bounds(AskingBoundariesTest::plain, 0, 11, 1, (f, n) -> f.keyTone(n, 0));
            bounds(AskingBoundariesTest::plain, 0, 5, 1, (f, n) -> f.keyTone(0, n));
        });
        promise(43, "How many KEYS have a TONE", () -> {
            ScaleForge f = of("right 0;up 0;");
            yes(f, f.keys(0), 72);
            yes(f, f.keys(11), 0);
            f = of("right 1;up 0;");
            yes(f, f.keys(0), 6);
            yes(f, f.keys(11), 6);
            f = of("right 0;up 1;");
            yes(f, f.keys(5), 12);
            yes(f, f.keys(6), 0);
        });
        promise(43, "(1).", () -> bounds(AskingBoundariesTest::plain, 0, 11, 1, (f, n) -> f.keys(n)));
    }

    private static void keysOfTones() {
        promise(44, "That with the least x and y, together, of several with the least y, what 0: x, 1: y", () -> {
            ScaleForge f = of("right 1;up 1;");
            yes(f, f.keyOf(11, 0), 11);
            yes(f, f.keyOf(11, 1), 0);
            yes(f, f.keyOf(0, 0), 0);
            yes(f, f.keyOf(0, 1), 0);
            // 6 by 3 and 0, or by 0 and 2.
            f = of("period 60;right 2;up 3;");
            yes(f, f.keyOf(6, 0), 0);
            yes(f, f.keyOf(6, 1), 2);
            // The last KEY alone.
            f = of("period 60;right 1;up 8;");
            yes(f, f.keyOf(51, 0), 11);
            yes(f, f.keyOf(51, 1), 5);
            f = of("period 60;right 5;up 1;");
            yes(f, f.keyOf(4, 0), 0);
            yes(f, f.keyOf(4, 1), 4);
        });
        promise(44, "(1;", () -> {
            bounds(AskingBoundariesTest::plain, 0, 11, 1, (f, n) -> f.keyOf(n, 0));
            bounds(AskingBoundariesTest::plain, 0, 1, 1, (f, n) -> f.keyOf(0, n));
        });
        promise(44, "6: none).", () -> {
            // A 13th to the right, a 7th up: there are none.
            ScaleForge f = of("period 60;right 4;up 0;");
            yes(f, f.keyOf(44, 0), 11);
            no(f, f.keyOf(48, 0), 6);
            f = of("period 60;right 0;up 7;");
            yes(f, f.keyOf(35, 1), 5);
            no(f, f.keyOf(42, 1), 6);
            f = of("right 0;up 0;");
            no(f, f.keyOf(1, 0), 6);
        });
        promise(45, "How many unlike TONES KEYS have.", () -> {
            is(of("right 0;up 0;").keyTones(), 1);
            is(of("period 60;right 0;up 7;").keyTones(), 6);
            is(of("period 60;right 4;up 0;").keyTones(), 12);
            is(of("period 60;right 1;up 1;").keyTones(), 17);
            is(of("period 60;right 11;up 1;").keyTones(), 60);
            is(of("period 2;right 1;up 0;").keyTones(), 2);
        });
    }

    // ---- 46 to 52

    private static void fitting() {
        promise(46, "NEAREST: the DEGREE", () -> {
            ScaleForge f = new ScaleForge();
            yes(f, f.nearest(1), 0);
            yes(f, f.nearest(10), 5);
            yes(f, f.nearest(11), 6);
            f = of("period 60;length 1;root 30;");
            yes(f, f.nearest(0), 0);
            yes(f, f.nearest(59), 0);
            // 0 and 30: 15 and 45 are as far from both.
            f = of("period 60;generator 30;length 2;");
            yes(f, f.nearest(15), 0);
            yes(f, f.nearest(16), 1);
            yes(f, f.nearest(45), 1);
            yes(f, f.nearest(46), 0);
        });
        promise(46, "(1).", () -> bounds(AskingBoundariesTest::plain, 0, 11, 1, (f, n) -> f.nearest(n)));
        promise(47, "FIT.", () -> {
            is(of("").fit(), 0);
            is(of("length 1;sounds 0;").fit(), 1);
            is(of("length 1;sounds 1;").fit(), 0);
            is(of("length 24;sounds 0 1 2 3 4 5 6 7 8 9 10 11;").fit(), 12);
        });
        promise(48, "BEST ROOT.", () -> {
            is(of("").bestRoot(), 0);
            is(of("length 12;root 5;sounds 3;").bestRoot(), 0);
            is(of("length 1;sounds 11;").bestRoot(), 11);
            is(of("length 1;sounds 3 11;").bestRoot(), 3);
            is(of("period 60;length 1;sounds 59;").bestRoot(), 59);
        });
    }

    private static void guesses() {
        promise(49, "GUESSES: how many.", () -> {
            is(of("").guesses(), 12);
            is(of("length 1;sounds 3;").guesses(), 12);
            is(of("length 1;sounds 3 4;").guesses(), 0);
            is(of("length 2;sounds 0 6;").guesses(), 1);
            is(of("length 24;sounds 0 1 2 3 4 5 6 7 8 9 10 11;").guesses(), 4);
            is(of("period 60;").guesses(), 60);
            // As it is now: those of an earlier call are gone.
            ScaleForge f = of("length 2;");
            yes(f, f.guesses(), 12);
            f.press(0);
            f.press(6);
            yes(f, f.guesses(), 1);
            f.press(7);
            yes(f, f.guesses(), 0);
        });
        promise(50, "The k-th of these, from 0 on, rising", () -> {
            // All 12 by 1 5 7 11 alone.
            ScaleForge f = of("length 24;sounds 0 1 2 3 4 5 6 7 8 9 10 11;");
            int[] due = {1, 5, 7, 11};
            for (int k = 0; k < due.length; k++) {
                yes(f, f.guessAt(k), due[k]);
            }
            f = of("period 60;");
            yes(f, f.guessAt(0), 0);
            yes(f, f.guessAt(59), 59);
        });
        promise(50, "(6: no such, below 0, too).", () -> {
            bounds(AskingBoundariesTest::plain, 0, 11, 6, (f, n) -> f.guessAt(n));
            bounds(() -> of("length 2;sounds 0 6;"), 0, 0, 6, (f, n) -> f.guessAt(n));
            ScaleForge f = of("length 1;sounds 3 4;");
            no(f, f.guessAt(0), 6);
        });
    }

    private static void asking() {
        promise(51, "ASK", () -> {
            // 0 4 5 7: by 5 and 7 all but what one of them alone reaches would not part them; 1 does.
            ScaleForge f = of("sounds 0 4 5 7;");
            yes(f, f.guesses(), 2);
            yes(f, f.ask(), 1);
            f = of("period 5;length 2;sounds 0;");
            yes(f, f.ask(), 1);
            // Two of 4, 2 sounds: by 0 one of four stays, by 1 two of four do, which parts them better.
            f = of("period 4;length 2;sounds 2;");
            yes(f, f.ask(), 1);
            // Likewise when an earlier call asked by a greater PERIOD.
            f = of("period 60;length 2;");
            yes(f, f.ask(), 0);
            f.rule(1, 4);
            f.press(2);
            yes(f, f.ask(), 1);
            // The last TONE alone does not sound.
            f = of("period 3;length 3;sounds 0 1;");
            yes(f, f.guesses(), 2);
            yes(f, f.ask(), 2);
        });
        promise(51, "(6: all sound, fewer than two GUESSES).", () -> {
            ScaleForge f = of("period 3;length 3;sounds 0 1 2;");
            yes(f, f.guesses(), 2);
            no(f, f.ask(), 6);
            f = of("length 2;sounds 0 6;");
            yes(f, f.guesses(), 1);
            no(f, f.ask(), 6);
            f = of("length 1;sounds 0 6;");
            yes(f, f.guesses(), 0);
            no(f, f.ask(), 6);
            f = of("length 2;sounds 0 5;");
            yes(f, f.guesses(), 2);
            yes(f, f.ask(), 1);
        });
    }

    private static void common() {
        promise(52, "How many TONES of DEGREES are of DEGREES by another ROOT, too", () -> {
            ScaleForge f = of("root 3;");
            yes(f, f.common(3), 7);
            yes(f, f.common(10), 6);
            yes(f, f.common(9), 2);
            yes(f, f.told(5), 3);
            is(one().common(1), 0);
            is(one().common(0), 1);
            is(of("length 12;").common(11), 12);
        });
        promise(52, "(1).", () -> {
            bounds(AskingBoundariesTest::plain, 0, 11, 1, (f, n) -> f.common(n));
            bounds(() -> of("period 60;"), 0, 59, 1, (f, n) -> f.common(n));
        });
    }

    // ---- 53 to 55

    private static void ways() {
        promise(53, "WAY: how far it is", () -> {
            is(of("").way(), 0);
            is(of("sounds 11;").way(), 0);
            is(of("sounds 0 11;").way(), 1);
            is(of("period 60;sounds 0 30;").way(), 30);
            is(of("sounds 0 1 2 3 4 5 6;").way(), 6);
            ScaleForge f = of("sounds 0 3 6;");
            yes(f, f.way(), 6);
            f.lift(6);
            yes(f, f.way(), 3);
            f.lift(3);
            yes(f, f.way(), 0);
            // Down from 0: 11 10 8 6 4 2.
            is(of("sounds 0 2 4 6 8 10 11;").way(), 10);
        });
        promise(53, "(7: more than 7 sound).", () -> {
            ScaleForge f = of("sounds 0 1 2 3 4 5 6;");
            yes(f, f.way(), 6);
            f.press(11);
            no(f, f.way(), 7);
            f.lift(0);
            // 1 11 2 3 4 5 6: 2 and 3 and 4.
            yes(f, f.way(), 9);
        });
        promise(54, "The k-th TONE of WAY, from 0 on", () -> {
            ScaleForge f = of("sounds 0 3 4 11;");
            int[] due = {0, 11, 3, 4};
            for (int k = 0; k < due.length; k++) {
                yes(f, f.wayAt(k), due[k]);
            }
            f = of("period 60;sounds 59;");
            yes(f, f.wayAt(0), 59);
        });
        promise(54, "(7: more than 7 sound;", () -> {
            ScaleForge f = of("sounds 0 1 2 3 4 5 6;");
            yes(f, f.wayAt(6), 6);
            f.press(11);
            no(f, f.wayAt(0), 7);
            no(f, f.wayAt(6), 7);
        });
        promise(54, "6: no such;", () -> {
            bounds(() -> of("sounds 0 1 2 3 4 5 6;"), 0, 6, 6, (f, n) -> f.wayAt(n));
            bounds(() -> of("sounds 5;"), 0, 0, 6, (f, n) -> f.wayAt(n));
            ScaleForge f = new ScaleForge();
            no(f, f.wayAt(0), 6);
            no(f, f.wayAt(-1), 6);
        });
        promise(54, "asked in this order).", () -> {
            ScaleForge f = of("sounds 0 1 2 3 4 5 6 7;");
            no(f, f.wayAt(8), 7);
            no(f, f.wayAt(-1), 7);
        });
    }

    private static void shapes() {
        promise(55, "SHAPES of n (1 to 3): how many", () -> {
            ScaleForge f = new ScaleForge();
            yes(f, f.shapes(1), 1);
            yes(f, f.shapes(2), 9);
            f = of("period 60;generator 1;length 24;");
            // 1 to 23; 1 to 22 with all above each up to 23: 253.
            yes(f, f.shapes(2), 23);
            yes(f, f.shapes(3), 253);
            f = of("length 3;");
            yes(f, f.shapes(3), 1);
            f = of("length 2;");
            yes(f, f.shapes(3), 0);
            f = one();
            yes(f, f.shapes(2), 0);
            yes(f, f.shapes(1), 1);
            // Those of one call are not told by the next one.
            f = new ScaleForge();
            f.modeBy(0);
            f.mistuned(12, 6);
            yes(f, f.shapes(3), unlikeThrees(0, 2, 4, 6, 7, 9, 11));
            yes(f, f.shapes(3), unlikeThrees(0, 2, 4, 6, 7, 9, 11));
            f.rule(3, 4);
            yes(f, f.shapes(3), unlikeThrees(0, 2, 7, 9));
            f.rule(3, 2);
            yes(f, f.shapes(3), 0);
        });
        promise(55, "(1).", () -> bounds(AskingBoundariesTest::plain, 1, 3, 1, (f, n) -> f.shapes(n)));
    }

    private static int unlikeThrees(int... tones) {
        Set<String> found = new HashSet<>();
        for (int a = 0; a < tones.length; a++) {
            for (int b = a + 1; b < tones.length; b++) {
                for (int c = b + 1; c < tones.length; c++) {
                    found.add((tones[b] - tones[a]) + " " + (tones[c] - tones[a]));
                }
            }
        }
        return found.size();
    }

    // ---- 56 to 60

    private static void convergents() {
        promise(56, "How many CONVERGENTS there are.", () -> {
            is(of("generator 0;").convergents(), 1);
            is(of("generator 1;").convergents(), 2);
            is(of("generator 11;").convergents(), 3);
            is(of("").convergents(), 5);
            is(of("period 60;generator 59;").convergents(), 3);
            is(of("period 55;generator 34;").convergents(), 9);
        });
        promise(57, "The FRACTION is the k-th of these, from 0 on", () -> {
            ScaleForge f = of("period 31;generator 18;");
            int[][] due = {{0, 1}, {1, 1}, {1, 2}, {3, 5}, {4, 7}, {7, 12}, {18, 31}};
            for (int k = 0; k < due.length; k++) {
                fraction(f, f.convergent(k), due[k][0], due[k][1]);
            }
            f = of("generator 0;");
            fraction(f, f.convergent(0), 0, 1);
            f = of("generator 6;");
            fraction(f, f.convergent(1), 1, 2);
        });
        promise(57, "(6: no such, below 0, too).", () -> {
            bounds(AskingBoundariesTest::plain, 0, 4, 6, (f, n) -> truth(f.convergent(n)));
            bounds(() -> of("generator 0;"), 0, 0, 6, (f, n) -> truth(f.convergent(n)));
        });
    }

    private static void ratios() {
        promise(58, "The FRACTION is the greatest of the SIZES by the least.", () -> {
            ScaleForge f = four();
            fraction(f, f.ratio(), 5, 2);
            f = one();
            fraction(f, f.ratio(), 1, 1);
            f = of("length 12;");
            fraction(f, f.ratio(), 1, 1);
            f = of("period 60;generator 1;length 2;");
            fraction(f, f.ratio(), 59, 1);
            f = of("period 60;generator 20;length 2;");
            fraction(f, f.ratio(), 2, 1);
        });
        promise(59, "The FRACTION is the part of all STEPS that are of the k-th of the SIZES", () -> {
            ScaleForge f = four();
            fraction(f, f.share(0), 1, 2);
            fraction(f, f.share(1), 1, 4);
            fraction(f, f.share(2), 1, 4);
            f = one();
            fraction(f, f.share(0), 1, 1);
            f = of("period 60;generator 1;length 24;");
            fraction(f, f.share(0), 23, 24);
            fraction(f, f.share(1), 1, 24);
        });
        promise(59, "(6: no such, below 0, too).", () -> {
            bounds(AskingBoundariesTest::four, 0, 2, 6, (f, n) -> truth(f.share(n)));
            bounds(AskingBoundariesTest::one, 0, 0, 6, (f, n) -> truth(f.share(n)));
        });
    }

    private static void odds() {
        promise(60, "The FRACTION is MISTUNED (n, k 0 to 12)", () -> {
            ScaleForge f = of("odds 3;");
            fraction(f, f.mistuned(0, 0), 1, 1);
            fraction(f, f.mistuned(0, 12), 0, 1);
            fraction(f, f.mistuned(12, 0), 1, 1);
            fraction(f, f.mistuned(12, 12), 531441, 1L << 48);
            fraction(f, f.mistuned(1, 1), 3, 16);
            fraction(f, f.mistuned(1, 2), 0, 1);
            fraction(f, f.mistuned(3, 2), 3 * 9 * 13 + 27 >> 1, 2048);
        });
        promise(60, "(1).", () -> {
            bounds(AskingBoundariesTest::plain, 0, 12, 1, (f, n) -> truth(f.mistuned(n, 0)));
            bounds(AskingBoundariesTest::plain, 0, 12, 1, (f, n) -> truth(f.mistuned(0, n)));
        });
    }

    // ---- 61, 62

    private static ScaleForge withTrays(String text) {
        ScaleForge f = of(text);
        for (int tray = 0; tray < 4; tray++) {
            f.tray(tray, tray, 24);
        }
        return f;
    }

    private static void copying() {
        promise(61, "TONES of all DEGREES come to a TRAY, one by one: how many", () -> {
            ScaleForge f = withTrays("period 60;length 24;root 59;");
            for (int tray = 0; tray < 4; tray++) {
                yes(f, f.copyScale(tray), 24);
                for (int d = 0; d < 24; d++) {
                    yes(f, f.read(tray, d), f.tone(d));
                }
            }
            // Those behind them stay.
            f = one();
            f.tray(0, 0, 2);
            f.write(0, 0, 9);
            f.write(0, 1, 9);
            yes(f, f.copyScale(0), 1);
            yes(f, f.read(0, 0), 0);
            yes(f, f.read(0, 1), 9);
        });
        promise(61, "(1;", () -> bounds(() -> withTrays(""), 0, 3, 1, (f, n) -> f.copyScale(n)));
        promise(61, "2;", () -> {
            ScaleForge f = new ScaleForge();
            no(f, f.copyScale(0), 2);
            no(f, f.copyScale(3), 2);
        });
        promise(61, "3).", () -> {
            ScaleForge f = new ScaleForge();
            f.tray(0, 0, 6);
            no(f, f.copyScale(0), 3);
            for (int place = 0; place < 6; place++) {
                yes(f, f.read(0, place), 0);
            }
            f.tray(0, 0, 7);
            yes(f, f.copyScale(0), 7);
            f = one();
            f.tray(0, 0, 0);
            no(f, f.copyScale(0), 3);
        });
    }

    private static ScaleForge withTones(String text, int... tones) {
        ScaleForge f = of(text);
        f.tray(0, 2, tones.length);
        for (int place = 0; place < tones.length; place++) {
            f.write(0, place, tones[place]);
        }
        return f;
    }

    private static void stepping() {
        promise(62, "The first n (0 to 60) numbers of a TRAY are TONES: at how many of the others the one ahead is the DEGREE "
            + "just below it, or above it, round (of one DEGREE alone itself), both of DEGREES", () -> {
            // 0 2 4 6 7 9 11.
            ScaleForge f = withTones("", 0, 2, 4, 2, 2, 6);
            yes(f, f.steps(0, 0), 0);
            yes(f, f.steps(0, 1), 0);
            yes(f, f.steps(0, 2), 1);
            yes(f, f.steps(0, 4), 3);
            yes(f, f.steps(0, 6), 3);
            // Round, up and down.
            is(withTones("", 11, 0, 11).steps(0, 3), 2);
            // One ahead, or both, of none.
            is(withTones("", 1, 2, 3, 4, 5).steps(0, 5), 0);
            // Of one DEGREE alone itself; of two the other one.
            is(withTones("length 1;", 0, 0, 1, 1, 0).steps(0, 5), 1);
            is(withTones("length 2;", 0, 0, 7, 7, 0).steps(0, 5), 2);
            is(withTones("length 3;", 0, 2, 7, 0, 7, 2, 0).steps(0, 7), 6);
            f = of("length 1;");
            f.tray(3, 3, 60);
            yes(f, f.steps(3, 60), 59);
        });
        promise(62, "(1;", () -> {
            bounds(() -> withTrays(""), 0, 3, 1, (f, n) -> f.steps(n, 0));
            bounds(() -> {
                ScaleForge f = new ScaleForge();
                f.tray(0, 0, 60);
                return f;
            }, 0, 60, 1, (f, n) -> f.steps(0, n));
            ScaleForge f = new ScaleForge();
            no(f, f.steps(0, 61), 1);
            no(f, f.steps(0, -1), 1);
        });
        promise(62, "2;", () -> {
            ScaleForge f = new ScaleForge();
            no(f, f.steps(0, 0), 2);
            no(f, f.steps(3, 60), 2);
        });
        promise(62, "3;", () -> {
            ScaleForge f = withTones("", 0, 99);
            no(f, f.steps(0, 3), 3);
            f.tray(0, 0, 0);
            no(f, f.steps(0, 1), 3);
            yes(f, f.steps(0, 0), 0);
        });
        promise(62, "5).", () -> {
            ScaleForge f = withTones("", 0, 11, 12);
            yes(f, f.steps(0, 2), 1);
            no(f, f.steps(0, 3), 5);
            f = withTones("", -1, 0);
            no(f, f.steps(0, 1), 5);
            yes(f, f.steps(0, 0), 0);
            // Numbers that are not ints: they are not cut to TONES.
            f = new ScaleForge();
            f.tray(0, 3, 1);
            f.write(0, 0, 1L << 32);
            no(f, f.steps(0, 1), 5);
            f.write(0, 0, Long.MIN_VALUE);
            no(f, f.steps(0, 1), 5);
            // By another PERIOD they can be.
            f = withTones("", 12);
            no(f, f.steps(0, 1), 5);
            f.rule(1, 13);
            yes(f, f.steps(0, 1), 0);
        });
    }

    // ---- 63 to 66

    private static void living() {
        promise(63, "LIVED: how many STEPS were done", () -> {
            ScaleForge f = of("", "stop;any;");
            yes(f, f.live(0), 1);
            f = of("", "press 1;press 1;when sounds 2;press 3;end;loop 3;lift 9;end;");
            yes(f, f.live(0), 7);
            f = of("", "loop 99;loop 99;lift 1;end;end;");
            yes(f, f.live(0), 300);
            // A text without a STEP is there, and nothing is done by it.
            f = of("", "");
            yes(f, f.live(0), 0);
        });
        promise(63, "(1;", () -> bounds(() -> of("", "any;"), 0, 9999, 1, (f, n) -> f.live(n)));
        promise(63, "6: no STUDIES).", () -> {
            ScaleForge f = new ScaleForge();
            no(f, f.live(0), 6);
            no(f, f.live(10000), 1);
            no(f, studies(f, "end;"), 9);
            no(f, f.live(0), 6);
            studies(f, "any;");
            yes(f, f.live(0), 1);
            f.scale(0);
            no(f, f.live(0), 6);
        });
    }

    private static void lived() {
        promise(64, "Of live() latest with STATUS 0,", () -> {
            ScaleForge f = of("", "lift 1;lift 1;press 2;");
            f.live(0);
            no(f, f.live(-1), 1);
            yes(f, f.lived(0), 2);
            // It is told still when the STUDIES are others, or gone.
            f.scale(0);
            no(f, f.live(0), 6);
            yes(f, f.lived(0), 2);
            yes(f, f.lived(1), 1);
            studies(f, "press 3;");
            yes(f, f.lived(0), 2);
            f.mean(0, 3);
            yes(f, f.lived(0), 2);
            f.live(0);
            yes(f, f.lived(0), 0);
            f.live(0);
            yes(f, f.lived(0), 1);
            yes(f, f.lived(1), 0);
        });
        promise(64, "what 0: MISSED,", () -> {
            ScaleForge f = of("sounds 1;", "press 1;press 59;lift 2;lift 59;hold 1;end;root 0;root 59;loop 99;lift 3;end;");
            yes(f, f.live(0), 7 + 100);
            yes(f, f.lived(0), 7 + 99);
            f = of("", "press 1;");
            f.live(0);
            yes(f, f.lived(0), 0);
        });
        promise(64, "1: how many were PRESSED (by press, hold, any),", () -> {
            // any by 9,999 PRESSES 11.
            ScaleForge f = of("", "press 1;hold 2;end;any;press 1;hold 1;end;press 12;");
            f.live(9999);
            yes(f, f.lived(1), 3);
            yes(f, f.lived(0), 3);
        });
        promise(64, "2: LIFTED by lift, any,", () -> {
            // any by 0 LIFTS 0; what a hold lets go is not counted, what is MISSED neither.
            ScaleForge f = of("sounds 0 1;", "any;lift 1;lift 1;hold 2;end;");
            f.live(0);
            yes(f, f.lived(2), 2);
            yes(f, f.lived(3), 1);
            f.live(0);
            yes(f, f.lived(2), 0);
            yes(f, f.lived(3), 1);
        });
        promise(64, "3: how many were let go,", () -> {
            ScaleForge f = of("", "loop 99;hold 2;end;end;hold 3;lift 3;end;");
            yes(f, f.live(0), 102);
            // More than LOG tells.
            yes(f, f.lived(3), 100);
            f = of("sounds 1;", "hold 1;end;hold 12;end;");
            f.live(0);
            yes(f, f.lived(3), 0);
        });
        promise(64, "4: 1 if a STEP was come to when 300 had been done, else 0", () -> {
            String most = "loop 99;lift 1;end;loop 99;lift 1;end;loop 98;lift 1;end;";
            String[] behind = {"", "any;", "any;any;", "hold 1;end;", "loop 99;end;", "hold 1;any;end;", "loop 2;any;end;",
                "stop;", "leave;", "stop;any;", "when fit=9;any;end;", "when fit=0;any;end;", "loop 1;any;end;"};
            int[] due = {0, 0, 1, 0, 0, 1, 1, 0, 0, 0, 0, 1, 1};
            for (int i = 0; i < due.length; i++) {
                ScaleForge f = of("", most + behind[i]);
                yes(f, f.live(0), i == 0 ? 299 : 300);
                yes(f, f.lived(4), due[i]);
            }
        });
        promise(64, "(1;", () -> bounds(() -> {
            ScaleForge f = of("", "any;");
            f.live(0);
            return f;
        }, 0, 4, 1, (f, n) -> f.lived(n)));
        promise(64, "6: there was none).", () -> {
            ScaleForge f = of("", "any;");
            for (int what = 0; what < 5; what++) {
                no(f, f.lived(what), 6);
            }
            no(f, f.lived(5), 1);
            no(f, f.live(-1), 1);
            f.mean(0, 1);
            no(f, f.lived(0), 6);
            f.live(0);
            f.lived(4);
            is(f.status(), 0);
        });
    }

    private static void logs() {
        promise(65, "The k-th of LOG of live() latest with STATUS 0, from 0 on", () -> {
            ScaleForge f = of("", "hold 1;hold 2;end;hold 3;end;end;");
            f.live(0);
            int[] due = {2, 3, 1};
            for (int k = 0; k < due.length; k++) {
                yes(f, f.logAt(k), due[k]);
            }
            no(f, f.live(10000), 1);
            f.mean(0, 2);
            f.scale(0);
            yes(f, f.logAt(0), 2);
            // The latest alone: with fewer, those of the one ahead are gone.
            studies(f, "hold 5;end;");
            f.live(0);
            yes(f, f.logAt(0), 5);
            no(f, f.logAt(1), 6);
        });
        promise(65, "(6: there was none, no such, below 0, too).", () -> {
            ScaleForge f = of("", "hold 1;end;");
            no(f, f.logAt(0), 6);
            no(f, f.logAt(-1), 6);
            f.mean(0, 1);
            no(f, f.logAt(0), 6);
            bounds(() -> {
                ScaleForge g = of("", "hold 1;end;hold 2;end;");
                g.live(0);
                return g;
            }, 0, 1, 6, (g, n) -> g.logAt(n));
            bounds(() -> {
                ScaleForge g = of("", "loop 99;hold 1;end;end;");
                g.live(0);
                return g;
            }, 0, 59, 6, (g, n) -> g.logAt(n));
        });
    }

    private static int soundingAfter(int seed) {
        ScaleForge f = of("odds 6;sounds 0 1 2 3;", "loop 9;any;end;root 5;hold 5;end;");
        f.live(seed);
        return f.told(11);
    }

    private static void means() {
        promise(66, "The FRACTION is the mean of how many TONES sound behind the STUDIES, by so many seeds (1 to 20) from one on",
            () -> {
                ScaleForge f = of("odds 6;sounds 0 1 2 3;", "loop 9;any;end;root 5;hold 5;end;");
                fraction(f, f.mean(9999, 1), soundingAfter(9999), 1);
                fraction(f, f.mean(0, 1), soundingAfter(0), 1);
                for (int seed : new int[] {0, 9980}) {
                    int together = 0;
                    for (int i = 0; i < 20; i++) {
                        together += soundingAfter(seed + i);
                    }
                    yes(f, f.mean(seed, 20));
                    is(f.top() * 20, f.bottom() * together);
                }
                f = of("", "stop;");
                fraction(f, f.mean(0, 20), 0, 1);
                f = of("", "press 1;press 2;");
                fraction(f, f.mean(0, 20), 2, 1);
                f = of("sounds 3;", "");
                fraction(f, f.mean(0, 20), 1, 1);
            });
        promise(66, "(1: the last above 9,999, too;", () -> {
            bounds(() -> of("", "any;"), 0, 9999, 1, (f, n) -> truth(f.mean(n, 1)));
            bounds(() -> of("", "any;"), 1, 20, 1, (f, n) -> truth(f.mean(0, n)));
            bounds(() -> of("", "any;"), 0, 9980, 1, (f, n) -> truth(f.mean(n, 20)));
            ScaleForge f = of("", "any;");
            no(f, f.mean(9999, 2), 1);
            yes(f, f.mean(9998, 2));
        });
        promise(66, "6: no STUDIES);", () -> {
            ScaleForge f = new ScaleForge();
            no(f, f.mean(0, 1), 6);
            no(f, f.mean(9981, 20), 1);
            is(f.top(), 0);
        });
        promise(66, "all stays as it is.", () -> {
            Made made = () -> {
                ScaleForge f = of("odds 6;sounds 0 1;", "root 5;hold 5;any;end;press 7;");
                f.press(4);
                f.mark();
                f.live(8);
                f.ratio();
                return f;
            };
            ScaleForge f = made.make();
            yes(f, f.mean(1, 20));
            f.ratio();
            same(f, made.make());
        });
    }

    // ---- 67, 68

    private static void marks() {
        promise(67, "A MARK more: how many there are", () -> {
            ScaleForge f = new ScaleForge();
            yes(f, f.mark(), 1);
            yes(f, f.mark(), 2);
            yes(f, f.mark(), 3);
            f.undo();
            f.undo();
            yes(f, f.mark(), 2);
            // A SCALE that is taken leaves the MARKS.
            f.scale(0);
            yes(f, f.mark(), 3);
        });
        promise(67, "(4).", () -> {
            ScaleForge f = new ScaleForge();
            f.mark();
            f.mark();
            f.press(1);
            f.mark();
            f.press(2);
            no(f, f.mark(), 4);
            no(f, f.mark(), 4);
            // The third one stays as it was.
            yes(f, f.undo(), 2);
            yes(f, f.told(11), 1);
            yes(f, f.mark(), 3);
        });
    }

    private static void undoing() {
        promise(68, "All is taken back to the latest MARK: how many there are left", () -> {
            ScaleForge f = of("period 20;sounds 3;", "press 4;press 5;");
            f.press(9);
            f.mark();
            f.rule(1, 5);
            f.rule(0, 16);
            f.glide(1);
            f.flip();
            f.live(0);
            f.mark();
            scale(f, "period 7;");
            f.mark();
            f.press(1);
            yes(f, f.undo(), 2);
            yes(f, f.told(1), 7);
            yes(f, f.told(11), 0);
            no(f, f.recent(0), 6);
            no(f, f.live(0), 6);
            yes(f, f.undo(), 1);
            yes(f, f.told(1), 5);
            yes(f, f.told(0), 16);
            yes(f, f.live(0), 2);
            yes(f, f.undo(), 0);
            yes(f, f.told(1), 20);
            yes(f, f.told(0), 4);
            yes(f, f.told(4), 0);
            yes(f, f.told(11), 2);
            yes(f, f.recent(0), 9);
            no(f, f.recent(1), 6);
            yes(f, f.live(0), 2);
            // TRAYS, the tape and the FRACTION are no part of a MARK.
            f = new ScaleForge();
            f.mark();
            f.tray(0, 0, 1);
            f.write(0, 0, 5);
            f.convergent(3);
            feed(f, " ");
            yes(f, f.undo(), 0);
            yes(f, f.read(0, 0), 5);
            is(f.top(), 3);
            is(f.feed(0, 0, 0, 0, 0), 40);
        });
        promise(68, "(6).", () -> {
            ScaleForge f = new ScaleForge();
            f.press(1);
            no(f, f.undo(), 6);
            yes(f, f.told(11), 1);
            f.mark();
            yes(f, f.undo(), 0);
            no(f, f.undo(), 6);
            yes(f, f.told(11), 1);
        });
    }
}
