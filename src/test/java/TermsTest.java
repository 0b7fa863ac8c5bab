import java.util.ArrayList;
import java.util.List;

/** Each sentence of 'Terms' with its boundary cases; the promise is the one by whose call it is shown. */
public final class TermsTest extends Bench {
    private static final String[] WORDS = {"odds", "period", "generator", "length", "down", "root", "nominals", "right",
        "up"};

    public static void main(String[] args) {
        trays();
        tokens();
        grammar();
        bounds();
        boundsByPeriod();
        faultOrder();
        faults();
        takenScales();
        tonesAndDegrees();
        sizes();
        modes();
        namesAndKeys();
        pressing();
        nearestAndFit();
        guesses();
        convergents();
        ways();
        shapesAndOdds();
        studyTexts();
        studyFaults();
        studyNumbers();
        holds();
        endings();
        draws();
        misses();
        loops();
        livesAndMarks();
        fractions();
        statusNumbers();
        statusOrder();
        refusals();
        isQuotedWhole("Terms");
        finish();
    }

    // ---- 1: TRAYS, the SCALE's text

    private static void trays() {
        terms(7, "TRAYS 0 to 3 are MISSING at first,", () -> {
            ScaleForge f = new ScaleForge();
            for (int tray = 0; tray < 4; tray++) {
                no(f, f.read(tray, 0), 2);
            }
            no(f, f.read(-1, 0), 1);
            no(f, f.read(4, 0), 1);
        });
        terms(5, "or rows of 0 to 60 numbers", () -> {
            ScaleForge f = new ScaleForge();
            yes(f, f.tray(0, 0, 0));
            no(f, f.read(0, 0), 3);
            yes(f, f.tray(1, 0, 60));
            yes(f, f.read(1, 59), 0);
            no(f, f.read(1, 60), 3);
            no(f, f.tray(2, 0, -1), 1);
            no(f, f.tray(2, 0, 61), 1);
            no(f, f.read(2, 0), 2);
        });
        terms(6, "of 8 bits (sort 0), 16 (1), 32 (2) or 64 (3).", () -> {
            ScaleForge f = new ScaleForge();
            for (int sort = 0; sort < 4; sort++) {
                long most = Long.MAX_VALUE >> 64 - (8 << sort);
                yes(f, f.tray(0, sort, 1));
                isKept(f, most, most);
                isKept(f, -most - 1, -most - 1);
                isKept(f, most + 1, -most - 1);
                isKept(f, -most - 2, most);
                isKept(f, 2 * most + 1, -1);
                isKept(f, 2 * most + 2, 0);
            }
            no(f, f.tray(0, 4, 1), 1);
            no(f, f.tray(0, -1, 1), 1);
        });
    }

    private static void isKept(ScaleForge f, long written, long due) {
        yes(f, f.write(0, 0, written));
        yes(f, f.read(0, 0), due);
    }

    private static void tokens() {
        terms(10, "A SCALE is a TEXT of at most 900 bytes.", () -> {
            ScaleForge f = new ScaleForge();
            yes(f, scale(f, padded("period 20;", "length 11;", 900)), 11);
            is(f.told(1), 20);
            is(feed(f, " ".repeat(900)), 900);
            is(f.feed(0, 0, 0, 0, 0), -1);
            no(f, f.scale(901), 1);
            yes(f, f.scale(900), 7);
        });
        terms(10, "TOKENS, as long as they go,", () -> {
            is(of("period31;length5;").told(1), 31);
            is(of("period31;length5;").told(3), 5);
            is(of("length 12;").told(3), 12);
            scaleFault("length 1 2;", 2, 9);
            scaleFault("leng th 5;", 2, 0);
            scaleFault("lengthlength 5;", 2, 0);
            is(of("period 20;sounds 12;").told(11), 1);
            is(of("period 20;sounds 1 2;").told(11), 2);
            studyFault("when fit<=5;", 2, 9);
        });
        terms(12, "between them blanks (10, 32):", () -> {
            is(of("\n \nlength\n\n5 ; \n").told(3), 5);
            is(of("   ").told(3), 7);
            is(of("length 5;odds 3;").told(0), 3);
            for (int sign = 0; sign < 256; sign++) {
                boolean begins = sign == 10 || sign == 32 || "<=>;".indexOf(sign) >= 0 || sign >= 'a' && sign <= 'z'
                    || sign >= '0' && sign <= '9';
                if (!begins) {
                    scaleFault("length" + (char) sign + "5;", 1, 6);
                }
            }
        });
        terms(12, "WORDS (small letters),", () -> {
            scaleFault("`", 1, 0);
            scaleFault("{", 1, 0);
            scaleFault("A", 1, 0);
            scaleFault("Z", 1, 0);
            scaleFault("a", 2, 0);
            scaleFault("z", 2, 0);
            scaleFault("lenGth 5;", 2, 0);
            scaleFault("z".repeat(900), 2, 0);
        });
        terms(12, "NUMBERS (1 to 4 digits),", () -> {
            is(of("length 5;").told(3), 5);
            is(of("length 0005;").told(3), 5);
            is(of("length 0019;odds 09;").told(0), 9);
            scaleFault("length 00005;", 1, 7);
            scaleFault("length 9999;", 4, 7);
            scaleFault("length 12a;", 2, 9);
            scaleFault("length /;", 1, 7);
            scaleFault("length :;", 1, 7);
        });
        terms(12, "SIGNS ; < > =", () -> {
            for (String sign : new String[] {";", "<", ">", "="}) {
                scaleFault(sign, 2, 0);
                scaleFault("length" + sign + sign, 2, 6);
            }
            scaleFault("?", 1, 0);
            scaleFault(":", 1, 0);
        });
    }

    private static void grammar() {
        terms(10, "SCALE: {PART}.", () -> {
            ScaleForge f = new ScaleForge();
            yes(f, f.scale(0), 7);
            yes(f, scale(f, " \n "), 7);
            yes(f, scale(f, "up 3;right 4;nominals 5;root 6;down 7;length 8;generator 9;odds 10;sounds 11;"), 4);
            int[] due = {10, 12, 9, 8, 7, 6, 5, 4, 3};
            for (int what = 0; what < due.length; what++) {
                is(f.told(what), due[what]);
            }
            scaleFault("length 5;;", 2, 9);
            scaleFault("5", 2, 0);
        });
        terms(12, "PART: odds NUMBER ; or period NUMBER ; or generator NUMBER ; or length NUMBER ; or down NUMBER ; or root "
            + "NUMBER ; or nominals NUMBER ; or right NUMBER ; or up NUMBER ; or sounds {NUMBER} ;", () -> {
            for (int what = 0; what < WORDS.length; what++) {
                String word = WORDS[what];
                is(of(word + " 3;").told(what), 3);
                scaleFault(word, 2, word.length());
                scaleFault(word + ";", 2, word.length());
                scaleFault(word + " 3", 2, word.length() + 2);
                scaleFault(word + " 3 3;", 2, word.length() + 3);
                scaleFault(word + " =3;", 2, word.length() + 1);
                scaleFault(word + " up;", 2, word.length() + 1);
                scaleFault(word + " 3=", 2, word.length() + 2);
                scaleFault(word + "s 3;", 2, 0);
                scaleFault(word.substring(1) + " 3;", 2, 0);
                scaleFault("x" + word.substring(1) + " 3;", 2, 0);
                scaleFault(word.substring(0, word.length() - 1) + "x 3;", 2, 0);
            }
            is(of("sounds 3;").told(11), 1);
            scaleFault("sounds", 2, 6);
            scaleFault("sounds 3", 2, 8);
            scaleFault("sounds length 5;", 2, 7);
            scaleFault("sounds 3<4;", 2, 8);
            scaleFault("sounds 3,4;", 1, 8);
            scaleFault("press 3;", 2, 0);
        });
        terms(10, "({ } any number of times.)", () -> {
            is(of("sounds;").told(11), 0);
            is(of("sounds;sounds;sounds;").told(11), 0);
            is(of("sounds 1;sounds;sounds 2 3;").told(11), 3);
            StringBuilder tones = new StringBuilder("period 60;sounds");
            for (int tone = 59; tone >= 0; tone--) {
                tones.append(' ').append(tone);
            }
            is(of(tones + ";").told(11), 60);
        });
    }

    /** A PART by its least and its most, and one beyond each. */
    private static void partBounds(String ahead, int what, int least, int most) {
        String text = ahead + WORDS[what] + " ";
        is(of(text + least + ";").told(what), least);
        is(of(text + most + ";").told(what), most);
        for (int less = 0; less < least; less++) {
            scaleFault(text + less + ";", 4, text.length());
        }
        scaleFault(text + (most + 1) + ";", 4, text.length());
        scaleFault(text + "9999;", 4, text.length());
    }

    private static void bounds() {
        terms(10, "ODDS (0 to 16; 4 without),", () -> {
            partBounds("", 0, 0, 16);
            is(of("").told(0), 4);
        });
        terms(10, "PERIOD (2 to 60; 12 without),", () -> {
            partBounds("", 1, 2, 60);
            is(of("").told(1), 12);
        });
        terms(10, "LENGTH (1 to 24; 7 without),", () -> {
            partBounds("", 3, 1, 24);
            partBounds("period 2;", 3, 1, 24);
            is(of("").told(3), 7);
            is(of("period 2;").told(3), 7);
        });
        terms(10, "DOWN (0 to 23; 0 without),", () -> {
            partBounds("", 4, 0, 23);
            partBounds("length 1;", 4, 0, 23);
            is(of("").told(4), 0);
        });
        terms(10, "NOMINALS (1 to 7; 7 without),", () -> {
            partBounds("", 6, 1, 7);
            partBounds("period 2;", 6, 1, 7);
            is(of("").told(6), 7);
            is(of("period 2;").told(6), 7);
        });
    }

    private static void boundsByPeriod() {
        terms(10, "GENERATOR (0 to PERIOD less 1; 7 without, or what is left of it by PERIOD),", () -> {
            partBounds("", 2, 0, 11);
            partBounds("period 2;", 2, 0, 1);
            partBounds("period 60;", 2, 0, 59);
            int[][] due = {{2, 1}, {3, 1}, {4, 3}, {5, 2}, {6, 1}, {7, 0}, {8, 7}, {60, 7}};
            for (int[] one : due) {
                is(of("period " + one[0] + ";").told(2), one[1]);
            }
        });
        terms(10, "ROOT (0 to PERIOD less 1; 0 without),", () -> {
            partBounds("", 5, 0, 11);
            partBounds("period 2;", 5, 0, 1);
            partBounds("period 60;", 5, 0, 59);
            is(of("").told(5), 0);
            is(of("period 60;").told(5), 0);
        });
        terms(10, "RIGHT, UP (0 to PERIOD less 1; 2 and 1 without, likewise),", () -> {
            for (int what = 7; what < 9; what++) {
                partBounds("", what, 0, 11);
                partBounds("period 2;", what, 0, 1);
                partBounds("period 60;", what, 0, 59);
                is(of("").told(what), 9 - what);
                is(of("period 3;").told(what), 9 - what);
            }
            is(of("period 2;").told(7), 0);
            is(of("period 2;").told(8), 1);
        });
        terms(10, "SOUNDS: TONES (0 to PERIOD less 1) that sound, each once.", () -> {
            ScaleForge f = of("period 20;sounds 19 0;");
            is(f.told(11), 2);
            is(f.soundAt(0), 0);
            is(f.soundAt(1), 19);
            is(of("").told(11), 0);
            scaleFault("period 20;sounds 19 20;", 4, 20);
            scaleFault("sounds 12;", 4, 7);
            scaleFault("period 2;sounds 2;", 4, 16);
            scaleFault("sounds 5 5;", 5, 9);
        });
        terms(12, "A period must be told ahead of generator, root, right, up, sounds, if it is.", () -> {
            for (String word : new String[] {"generator", "root", "right", "up", "sounds"}) {
                String part = word + " 1;";
                scaleFault(part + "period 12;", 5, part.length());
                is(of("period 20;" + part).told(1), 20);
                is(of(part).told(1), 12);
            }
            for (String word : new String[] {"odds", "length", "down", "nominals"}) {
                is(of(word + " 1;period 20;").told(1), 20);
            }
        });
    }

    private static void faultOrder() {
        terms(12, "FAULTS, the first along the text (of one TOKEN the least kind):", () -> {
            scaleFault("odds 17;A", 4, 5);
            scaleFault("A odds 17;", 1, 0);
            scaleFault("odds 17 odds", 4, 5);
            scaleFault("odds up;odds 17;", 2, 5);
            scaleFault("odds 3;odds 12345;", 5, 7);
            scaleFault("odds 3;odds;", 5, 7);
            scaleFault("sounds 1 99 1;", 4, 9);
            scaleFault("sounds 1 1 99;", 5, 9);
            // One TOKEN: 1 ahead of 4 and of 2, 4 ahead of 5, 6 ahead of 7.
            scaleFault("odds 99999;", 1, 5);
            scaleFault("odds 3 99999;", 1, 7);
            scaleFault("99999 3;", 1, 0);
            scaleFault("period 5;sounds 1 0006;", 4, 18);
            studyFault("loop 1;loop 1;loop 1;" + "any;".repeat(27) + "loop 1;", 6, 129);
        });
    }

    private static void faults() {
        terms(12, "1 no TOKEN begins so (a NUMBER of 5 digits and more: at its first).", () -> {
            scaleFault("odds 1;#", 1, 7);
            scaleFault("#", 1, 0);
            scaleFault("odds 1\u00ff", 1, 6);
            scaleFault("odds 12345;", 1, 5);
            scaleFault("odds 00000000000001;", 1, 5);
            scaleFault("odds " + "1".repeat(895), 1, 5);
            scaleFault("sounds 12345;", 1, 7);
            scaleFault("sounds 1 00002;", 1, 9);
            scaleFault("odds 1 00002;", 1, 7);
            cutFault("odds 12345;", 9, 4, 5);
            cutFault("odds 12345;", 10, 1, 5);
        });
        terms(12, "2 it can't stand there (the end: the text's length).", () -> {
            scaleFault("odds 1;7", 2, 7);
            scaleFault("odds", 2, 4);
            scaleFault("odds 1", 2, 6);
            scaleFault("odds 1 \n ", 2, 9);
            scaleFault("sounds 1 2", 2, 10);
            scaleFault(padded("sounds 1", "", 900), 2, 900);
            cutFault("odds 12;", 7, 2, 7);
            cutFault("odds 12;", 6, 2, 6);
            cutFault("odds 12;", 5, 2, 5);
            cutFault("odds 12;", 3, 2, 0);
            // Blanks behind the text are not of it.
            cutFault("odds 5  ;", 6, 2, 6);
            cutFault("odds 5  ;", 7, 2, 7);
        });
        terms(12, "4 a NUMBER that can't be.", () -> {
            scaleFault("length 25;", 4, 7);
            scaleFault("length 0;", 4, 7);
            scaleFault("length 25", 4, 7);
            scaleFault("length 25 up", 4, 7);
            scaleFault("period 9;generator 9;", 4, 19);
        });
        terms(12, "5 a PART told already (but sounds), a period behind generator, root, right, up, sounds (at that WORD);",
            () -> {
                for (String word : WORDS) {
                    String part = word + " 3;";
                    scaleFault(part + " " + part, 5, part.length() + 1);
                    scaleFault(part + word, 5, part.length());
                    String other = word.equals("length") ? "down 1;" : "length 1;";
                    scaleFault(part + other + part, 5, part.length() + other.length());
                }
                is(of("sounds 1;sounds 2;").told(11), 2);
                for (String word : new String[] {"generator 1", "root 1", "right 1", "up 1", "sounds 1", "sounds"}) {
                    scaleFault(word + ";period 0;", 5, word.length() + 1);
                    scaleFault(word + ";period", 5, word.length() + 1);
                }
            });
        terms(12, "a TONE that sounds already (at its NUMBER).", () -> {
            scaleFault("sounds 1 2 1;", 5, 11);
            scaleFault("sounds 1;sounds 2 1;", 5, 18);
            scaleFault("sounds 1 0001;", 5, 9);
            scaleFault("sounds 0 0", 5, 9);
        });
    }

    private static void takenScales() {
        terms(10, "A SCALE that is taken is there in place of that ahead;", () -> {
            ScaleForge f = of("odds 1;period 20;generator 3;length 4;down 5;root 6;nominals 2;right 8;up 9;sounds 19;");
            f.press(2);
            yes(f, f.scale(0), 7);
            int[] due = {4, 12, 7, 7, 0, 0, 7, 2, 1, 7, 2, 0};
            for (int what = 0; what < due.length; what++) {
                is(f.told(what), due[what]);
            }
            no(f, f.soundAt(0), 6);
        });
        terms(10, "nothing was PRESSED (but SOUNDS sound);", () -> {
            ScaleForge f = new ScaleForge();
            f.press(3);
            is(f.recent(0), 3);
            yes(f, scale(f, "sounds 3 5;"), 7);
            no(f, f.recent(0), 6);
            is(f.told(11), 2);
            no(f, f.press(3), 7);
            yes(f, f.press(4), 3);
            is(f.recent(0), 4);
            no(f, f.recent(1), 6);
        });
        terms(10, "there are no STUDIES.", () -> {
            ScaleForge f = of("", "press 1;");
            yes(f, f.live(0), 1);
            yes(f, f.scale(0), 7);
            no(f, f.live(0), 6);
            no(f, f.mean(0, 1), 6);
        });
    }

    // ---- 2: TONES, DEGREES, MODES, NAMES, KEYS

    private static void tonesAndDegrees() {
        terms(22, "TONES are 0 to PERIOD less 1;", () -> {
            for (int period : new int[] {2, 12, 60}) {
                ScaleForge f = of("period " + period + ";");
                yes(f, f.press(0), 1);
                yes(f, f.press(period - 1), 2);
                no(f, f.press(period), 1);
                no(f, f.press(-1), 1);
            }
        });
        terms(14, "to fold a number: PERIOD is added, or taken away, till it is one.", () -> {
            // By 59 of 60 each is one lower: 59 and 83, 59 less 36.
            ScaleForge f = of("period 60;generator 59;down 23;root 59;right 59;up 59;");
            is(f.chain(-60), (59 + 83) % 60);
            is(f.chain(59), 59 - 36);
            is(f.keyTone(11, 5), 60 - 16);
            f = of("period 2;generator 1;");
            is(f.chain(-60), 0);
            is(f.chain(-59), 1);
            is(f.chain(60), 0);
            f.press(1);
            f.glide(59);
            is(f.soundAt(0), 0);
        });
        terms(14, "CHAIN of k: ROOT and (k less DOWN) times GENERATOR, folded.", () -> {
            ScaleForge f = of("root 3;down 2;");
            is(f.chain(2), 3);
            is(f.chain(3), 10);
            is(f.chain(1), 8);
            is(f.chain(0), 1);
            f = of("root 3;down 23;length 1;generator 0;");
            is(f.chain(-60), 3);
            is(f.tone(0), 3);
        });
        terms(15, "DEGREES: the unlike TONES of CHAIN of 0 to LENGTH less 1, rising, from 0 on.", () -> {
            ScaleForge f = of("root 10;length 3;");
            // 10 5 0.
            is(f.told(9), 3);
            is(f.tone(0), 0);
            is(f.tone(1), 5);
            is(f.tone(2), 10);
            is(of("length 1;").told(9), 1);
            is(of("length 24;generator 0;").told(9), 1);
            is(of("length 24;").told(9), 12);
            is(of("length 12;").told(9), 12);
            is(of("length 24;period 60;").told(9), 24);
            is(of("length 24;period 2;").told(9), 2);
        });
        terms(17, "STEP of a DEGREE: from it to the next one, from the last one to the first one, folded (PERIOD, if there "
            + "is one alone).", () -> {
            ScaleForge f = of("root 10;length 3;");
            is(f.step(0), 5);
            is(f.step(1), 5);
            is(f.step(2), 2);
            is(of("length 1;root 11;").step(0), 12);
            is(of("period 60;generator 0;length 24;").step(0), 60);
            is(of("period 2;").step(1), 1);
        });
        terms(18, "SPAN of a DEGREE by n: the STEPS of it and those behind it, n of them, round, together (0 to PERIOD "
            + "times 24).", () -> {
            ScaleForge f = of("root 10;length 3;");
            is(f.span(2, 0), 0);
            is(f.span(2, 1), 2);
            is(f.span(2, 2), 7);
            is(f.span(2, 3), 12);
            is(f.span(1, 24), 96);
            is(f.span(1, 23), 91);
            is(of("period 60;length 1;").span(0, 24), 1440);
            is(of("period 60;length 1;").span(0, 0), 0);
            is(of("period 2;length 1;").span(0, 1), 2);
        });
    }

    private static void sizes() {
        terms(19, "SIZES: the unlike STEPS, rising.", () -> {
            ScaleForge f = of("length 4;");
            // 0 2 7 9: 2 5 2 3.
            is(f.told(10), 3);
            is(f.sizeAt(0), 2);
            is(f.sizeAt(1), 3);
            is(f.sizeAt(2), 5);
            is(of("length 12;").told(10), 1);
            is(of("length 12;").sizeAt(0), 1);
            is(of("period 60;length 1;").sizeAt(0), 60);
        });
        terms(29, "VARIETY of n: how many unlike SPANS by n there are.", () -> {
            ScaleForge f = of("length 4;");
            // By 2: 7 7 5 5.
            is(f.variety(1), 3);
            is(f.variety(2), 2);
            is(f.variety(3), 3);
            is(f.variety(4), 1);
            is(f.variety(5), 3);
            is(f.variety(24), 1);
            is(of("length 1;").variety(1), 1);
            is(of("length 1;").variety(24), 1);
        });
        terms(30, "MYHILL: there are two DEGREES and more, and VARIETY is 2 for each n from 1 to one less than how many.",
            () -> {
                is(of("length 1;").myhill(), 0);
                is(of("length 24;generator 0;").myhill(), 0);
                is(of("length 2;").myhill(), 1);
                is(of("length 2;generator 6;").myhill(), 0);
                is(of("").myhill(), 1);
                is(of("length 4;").myhill(), 0);
                // 0 1 3 4 6 7 of 8: 1 2 1 2 1 1, by 3 it is 4 5 4 4 3 4.
                ScaleForge f = of("period 8;generator 3;length 6;");
                is(f.variety(1), 2);
                is(f.variety(3), 3);
                is(f.myhill(), 0);
            });
        terms(31, "A LENGTH is WELL FORMED, if with it all TONES of the CHAIN are unlike and there are two SIZES at most.",
            () -> {
                ScaleForge f = of("down 9;root 4;length 1;");
                // By 4 and by 6 there are three SIZES, by 13 the first TONE comes again.
                int[] due = {2, 3, 5, 7, 8, 9, 10, 11, 12};
                is(f.lengths(), due.length);
                for (int k = 0; k < due.length; k++) {
                    is(f.lengthAt(k), due[k]);
                }
                is(of("generator 0;").lengths(), 0);
                is(of("generator 6;").lengths(), 1);
                is(of("period 2;").lengths(), 1);
                is(of("period 60;generator 1;").lengthAt(22), 24);
            });
    }

    private static void modes() {
        terms(34, "MODE of a DEGREE: the row of STEPS from it on, round.", () -> {
            // 0 2 4 6 8 10: all alike; 0 1 3 4 6 7 of 8: 1 2 1 2 1 1 and 1 2 1 1 1 2 are not.
            ScaleForge f = of("generator 2;");
            is(f.alike(0, 5), 1);
            is(f.modes(), 1);
            f = of("period 8;generator 3;length 6;");
            is(f.alike(0, 2), 0);
            is(f.alike(5, 0), 0);
            is(f.modes(), 6);
            is(of("length 1;").modes(), 1);
            is(of("length 1;").alike(0, 0), 1);
        });
        terms(35, "BRIGHTNESS of a MODE: its SPANS by 1 to one less than how many DEGREES there are, together.", () -> {
            is(of("length 1;").brightness(0), 0);
            is(of("length 2;").brightness(0), 7);
            is(of("length 2;").brightness(1), 5);
            // 0 5 10: 5 10, 5 7, 2 7.
            ScaleForge f = of("root 10;length 3;");
            is(f.brightness(0), 15);
            is(f.brightness(1), 12);
            is(f.brightness(2), 9);
            // 0 37 38 .. 59: from 0 the 23 others are 37 to 59, 48 by the mean.
            is(of("period 60;generator 59;length 24;").brightness(0), 23 * 48);
        });
    }

    private static void namesAndKeys() {
        terms(38, "NAME of k (any): the NOMINAL, what is left of k by NOMINALS (0 and more), and SHARPS, so that k is SHARPS "
            + "times NOMINALS and the NOMINAL (SHARPS below 0: flats).", () -> {
            for (int nominals = 1; nominals <= 7; nominals++) {
                ScaleForge f = of("nominals " + nominals + ";");
                for (int k = -60; k <= 60; k += k == -60 || k == 59 ? 1 : 7) {
                    int left = ((k % nominals) + nominals) % nominals;
                    yes(f, f.nominal(k), left);
                    yes(f, f.sharps(k), (k - left) / nominals);
                }
            }
            ScaleForge f = new ScaleForge();
            yes(f, f.nominal(-1), 6);
            yes(f, f.sharps(-1), -1);
            yes(f, f.nominal(-7), 0);
            yes(f, f.sharps(-7), -1);
            yes(f, f.sharps(-8), -2);
            yes(f, f.sharps(6), 0);
            yes(f, f.sharps(7), 1);
        });
        terms(39, "Its TONE is CHAIN of k.", () -> {
            ScaleForge f = of("root 5;down 3;nominals 5;");
            for (int k = -45; k < 50; k += 6) {
                is(f.named(f.nominal(k), f.sharps(k)), f.chain(k));
            }
            is(f.named(3, 0), 5);
        });
        terms(42, "A KEY is at x (0 to 11) and y (0 to 5): x times RIGHT and y times UP, folded, is its TONE.", () -> {
            ScaleForge f = of("period 31;right 5;up 3;root 9;down 4;");
            is(f.keyTone(0, 0), 0);
            is(f.keyTone(11, 0), 55 - 31);
            is(f.keyTone(0, 5), 15);
            is(f.keyTone(11, 5), 70 - 62);
            no(f, f.keyTone(12, 5), 1);
            no(f, f.keyTone(11, 6), 1);
            no(f, f.keyTone(-1, 0), 1);
            no(f, f.keyTone(0, -1), 1);
        });
    }

    private static void pressing() {
        terms(22, "TONES sound, or not.", () -> {
            ScaleForge f = of("sounds 5;");
            no(f, f.press(5), 7);
            no(f, f.lift(6), 7);
        });
        terms(22, "PRESS: it sounds;", () -> {
            ScaleForge f = new ScaleForge();
            no(f, f.soundAt(0), 6);
            yes(f, f.press(11), 1);
            yes(f, f.soundAt(0), 11);
        });
        terms(23, "LIFT: it does not any more.", () -> {
            ScaleForge f = of("sounds 0 11;");
            yes(f, f.lift(0), 1);
            yes(f, f.soundAt(0), 11);
            yes(f, f.lift(11), 0);
            no(f, f.soundAt(0), 6);
        });
        terms(28, "RECENT: the TONES PRESSED (by PRESS, press, hold, any), the latest first, 12 at most (they stay in it, "
            + "whatever becomes of PERIOD).", () -> {
            // any by seed 9,999: 39,162 is by 8 4,895, by 20 15; then 62,681 is by 8 7,835, by 16 11: PRESSED.
            ScaleForge f = of("period 20;", "press 3;hold 4;end;any;");
            f.press(7);
            yes(f, f.live(9999), 3);
            int[] due = {15, 4, 3, 7};
            for (int k = 0; k < due.length; k++) {
                yes(f, f.recent(k), due[k]);
            }
            no(f, f.recent(4), 6);
            f.rule(1, 2);
            yes(f, f.recent(0), 15);
            f.lift(0);
            yes(f, f.recent(3), 7);
            ScaleForge g = of("period 20;");
            for (int tone = 0; tone < 13; tone++) {
                g.press(tone);
            }
            yes(g, g.recent(0), 12);
            yes(g, g.recent(11), 1);
            no(g, g.recent(12), 6);
        });
    }

    // ---- 3: what is asked of what sounds

    private static ScaleForge sounding() {
        ScaleForge f = of("period 19;generator 11;length 7;down 2;root 3;sounds 0 3 4 18;", "hold 5;any;end;");
        f.press(9);
        f.mark();
        f.live(77);
        f.ratio();
        return f;
    }

    private static void nearestAndFit() {
        terms(46, "All ahead is as all is now; nothing changes by it.", () -> {
            ScaleForge f = sounding();
            f.nearest(18);
            f.fit();
            f.bestRoot();
            f.guesses();
            f.guessAt(0);
            f.ask();
            f.common(18);
            f.way();
            f.wayAt(0);
            f.shapes(3);
            f.convergents();
            f.convergent(2);
            f.mistuned(12, 3);
            f.lengths();
            f.modeBy(0);
            f.simplest(0, 0);
            f.mean(0, 20);
            f.ratio();
            same(f, sounding());
            // As it is now: not as it was when the SCALE was told.
            ScaleForge g = of("sounds 1;");
            is(g.fit(), 0);
            g.rule(5, 1);
            is(g.fit(), 1);
            g.glide(1);
            is(g.fit(), 0);
        });
        terms(46, "NEAREST of a TONE: the DEGREE whose TONE is the fewest from it, up or down, folded; of two that come by "
            + "going down.", () -> {
            // 1 4 18 of 20.
            ScaleForge f = of("period 20;generator 3;length 3;root 18;");
            yes(f, f.nearest(0), 0);
            yes(f, f.nearest(19), 2);
            yes(f, f.nearest(2), 0);
            yes(f, f.nearest(3), 1);
            yes(f, f.nearest(11), 1);
            yes(f, f.nearest(18), 2);
            // 0 4 of 12: 2 is as far from both, 8, too, round.
            f = of("length 2;generator 4;");
            yes(f, f.nearest(2), 0);
            yes(f, f.nearest(8), 1);
            is(of("length 1;root 6;").nearest(0), 0);
            is(of("period 60;length 1;").nearest(30), 0);
        });
        terms(47, "FIT: how many TONES that sound are of DEGREES.", () -> {
            is(of("").fit(), 0);
            is(of("sounds 1 3;").fit(), 0);
            is(of("sounds 0 1 2 3 4 5 6 7 8 9 10 11;").fit(), 7);
            is(of("sounds 0 1;").fit(), 1);
        });
        terms(48, "BEST ROOT: the ROOT by which FIT is the greatest, of several the least.", () -> {
            is(of("").bestRoot(), 0);
            is(of("root 5;").bestRoot(), 0);
            is(of("sounds 0 1 2 3 4 5 6 7 8 9 10 11;").bestRoot(), 0);
            is(of("length 1;sounds 11;").bestRoot(), 11);
            is(of("length 1;sounds 7 11;").bestRoot(), 7);
            is(of("length 1;down 1;sounds 11;").bestRoot(), 6);
        });
    }

    private static void guesses() {
        terms(49, "GUESSES: the GENERATORS (0 to PERIOD less 1) by which, by any ROOT, all else as it is, all TONES that "
            + "sound are of DEGREES.", () -> {
            ScaleForge f = of("root 5;");
            yes(f, f.guesses(), 12);
            yes(f, f.guessAt(0), 0);
            yes(f, f.guessAt(11), 11);
            f = of("length 2;sounds 3 7;");
            yes(f, f.guesses(), 2);
            yes(f, f.guessAt(0), 4);
            yes(f, f.guessAt(1), 8);
            f = of("length 2;sounds 3 7 8;");
            yes(f, f.guesses(), 0);
            f = of("period 2;length 1;sounds 1;");
            yes(f, f.guesses(), 2);
        });
        terms(51, "ASK: the TONE that does not sound by which GUESSES are parted the best: the most of those which would stay "
            + "GUESSES, if it sounded, too, of those which would not, are the fewest; of several the least.", () -> {
            // Two of 5, 0 sounds: by 1 stay 1 4, by 2 stay 2 3; three do not by either.
            ScaleForge f = of("period 5;length 2;sounds 0;");
            yes(f, f.guesses(), 5);
            yes(f, f.ask(), 1);
            // Two of 4, 0 sounds: by 1 and 3 two of four stay, by 2 one alone: the rest would not.
            f = of("period 4;length 2;sounds 0;");
            yes(f, f.ask(), 1);
            // Two of 6, 2 sounds: by 0 stay 2 4, by 5 3 alone, the others likewise; 0 is the least.
            f = of("period 6;length 2;sounds 2;");
            yes(f, f.ask(), 0);
            // Nothing sounds: all stay by any TONE.
            is(of("length 2;").ask(), 0);
            // Two of 2: the one that is left; by 0 nothing is parted off but itself.
            f = of("period 2;length 2;sounds 0;");
            yes(f, f.guesses(), 2);
            yes(f, f.ask(), 1);
        });
    }

    private static void convergents() {
        terms(56, "NEAR: GENERATOR by PERIOD as a fraction goes on and on: a0 is 0 (GENERATOR by PERIOD, rounded down); then "
            + "PERIOD by GENERATOR is told likewise, a1, by what is left, and so on till nothing is left;", () -> {
            is(of("generator 0;").convergents(), 1);
            is(of("generator 1;").convergents(), 2);
            is(of("generator 6;").convergents(), 2);
            is(of("generator 8;").convergents(), 3);
            is(of("generator 11;").convergents(), 3);
            is(of("period 2;").convergents(), 2);
            is(of("period 55;generator 34;").convergents(), 9);
        });
        terms(57, "CONVERGENTS: a0, then a0 and 1 by a1, then a0 and 1 by (a1 and 1 by a2), ..", () -> {
            ScaleForge f = of("period 60;generator 59;");
            fraction(f, f.convergent(0), 0, 1);
            fraction(f, f.convergent(1), 1, 1);
            fraction(f, f.convergent(2), 59, 60);
            no(f, f.convergent(3), 6);
            f = of("generator 8;");
            fraction(f, f.convergent(2), 2, 3);
            f = of("generator 0;");
            fraction(f, f.convergent(0), 0, 1);
            no(f, f.convergent(1), 6);
        });
    }

    private static void ways() {
        terms(53, "WAY: all TONES that sound in a row, the least first, so that from each to the next one (up or down, "
            + "whichever is fewer, folded) it is the fewest together (0, if fewer than two sound);", () -> {
            ScaleForge f = of("");
            yes(f, f.way(), 0);
            no(f, f.wayAt(0), 6);
            f = of("sounds 5;");
            yes(f, f.way(), 0);
            yes(f, f.wayAt(0), 5);
            f = of("sounds 1 11;");
            yes(f, f.way(), 2);
            yes(f, f.wayAt(0), 1);
            is(of("sounds 0 6;").way(), 6);
            // 0 11 3 4: 1 and 4 and 1; 0 3 4 11 is 3 and 1 and 5.
            f = of("sounds 0 3 4 11;");
            yes(f, f.way(), 6);
            yes(f, f.wayAt(1), 11);
            yes(f, f.wayAt(2), 3);
            yes(f, f.wayAt(3), 4);
        });
        terms(54, "of several rows the first by TONES, one by one.", () -> {
            // Either way round is 9.
            ScaleForge f = of("sounds 0 3 6 9;");
            yes(f, f.way(), 9);
            int[] due = {0, 3, 6, 9};
            for (int k = 0; k < 4; k++) {
                yes(f, f.wayAt(k), due[k]);
            }
            // 0 1 11 and 0 11 1 are 3 each.
            f = of("sounds 0 1 11;");
            yes(f, f.way(), 3);
            yes(f, f.wayAt(1), 1);
            yes(f, f.wayAt(2), 11);
        });
    }

    private static void shapesAndOdds() {
        terms(55, "SHAPES of n: each n unlike DEGREES are a SHAPE, by their TONES less that of the least of them; how many "
            + "unlike ones there are (0, if there are fewer DEGREES).", () -> {
            ScaleForge f = of("length 1;");
            yes(f, f.shapes(1), 1);
            yes(f, f.shapes(2), 0);
            yes(f, f.shapes(3), 0);
            f = of("length 2;");
            yes(f, f.shapes(2), 1);
            yes(f, f.shapes(3), 0);
            f = of("length 3;");
            // 0 2 7.
            yes(f, f.shapes(1), 1);
            yes(f, f.shapes(2), 3);
            yes(f, f.shapes(3), 1);
            // All 12: 1 to 11; 1 to 10 with all above each: 55.
            f = of("length 12;");
            yes(f, f.shapes(2), 11);
            yes(f, f.shapes(3), 55);
        });
        terms(60, "Each of n TONES (0 to 12) is mistuned by ODDS sixteenths: MISTUNED: the odds that k or more are.", () -> {
            ScaleForge f = of("odds 0;");
            fraction(f, f.mistuned(12, 0), 1, 1);
            fraction(f, f.mistuned(12, 1), 0, 1);
            f = of("odds 16;");
            fraction(f, f.mistuned(12, 12), 1, 1);
            fraction(f, f.mistuned(11, 12), 0, 1);
            f = of("odds 1;");
            fraction(f, f.mistuned(0, 0), 1, 1);
            fraction(f, f.mistuned(0, 1), 0, 1);
            fraction(f, f.mistuned(1, 1), 1, 16);
            fraction(f, f.mistuned(12, 12), 1, 1L << 48);
            fraction(f, f.mistuned(12, 11), 12 * 15 + 1, 1L << 48);
            f = of("odds 15;");
            fraction(f, f.mistuned(12, 1), (1L << 48) - 1, 1L << 48);
        });
    }

    // ---- 4: STUDIES

    private static void studyTexts() {
        terms(11, "STUDIES are a TEXT of at most 300 bytes, of such TOKENS (none at first).", () -> {
            ScaleForge f = new ScaleForge();
            no(f, f.live(0), 6);
            no(f, f.mean(0, 1), 6);
            yes(f, studies(f, padded("press 1;", "press 2;", 300)), 2);
            yes(f, f.live(0), 2);
            is(f.told(11), 2);
            feed(f, padded("press 1;", "press 2;", 301));
            no(f, f.studies(301), 1);
            yes(f, f.studies(300 - 8), 1);
            yes(f, studies(f, "\npress0003\n;hold 4;end;"), 2);
            studyFault("press 00003;", 1, 6);
            studyFault("Press 3;", 1, 0);
            studyFault("press\t3;", 1, 5);
            studyFault("pres s 3;", 2, 0);
        });
        terms(11, "STUDIES: {STEP}.", () -> {
            ScaleForge f = new ScaleForge();
            yes(f, f.studies(0), 0);
            yes(f, studies(f, " \n"), 0);
            yes(f, studies(f, "any;".repeat(30)), 30);
            studyFault("any;;", 2, 4);
            studyFault("3", 2, 0);
        });
        terms(11, "STEP: press NUMBER ; or lift NUMBER ; or root NUMBER ; or any ; or hold NUMBER ; {STEP} end ; or when TEST ; "
            + "{STEP} end ; or loop NUMBER ; {STEP} end ; or leave ; or stop ;", () -> {
            ScaleForge f = new ScaleForge();
            yes(f, studies(f, "press 1;lift 1;root 1;any;hold 1;end;when fit=1;end;loop 1;end;leave;stop;"), 9);
            yes(f, studies(f, "hold 1;any;any;end;when fit=1;any;any;end;loop 1;any;any;end;"), 9);
            for (String word : new String[] {"press", "lift", "root", "hold", "loop"}) {
                int length = word.length();
                studyFault(word, 2, length);
                studyFault(word + ";", 2, length);
                studyFault(word + " 1", 2, length + 2);
                studyFault(word + " 1 1;", 2, length + 3);
                studyFault(word + "=1;", 2, length);
                studyFault(word + "x 1;", 2, 0);
            }
            for (String word : new String[] {"any", "leave", "stop"}) {
                studyFault(word, 2, word.length());
                studyFault(word + " 1;", 2, word.length() + 1);
                studyFault(word + "s;", 2, 0);
            }
            for (String opening : new String[] {"hold 1;", "when fit=1;", "loop 1;"}) {
                studyFault(opening + "end", 2, opening.length() + 3);
                studyFault(opening + "end 1;", 2, opening.length() + 4);
                studyFault(opening + "ends;", 2, opening.length());
            }
            studyFault("odds 1;", 2, 0);
        });
        terms(11, "TEST: sounds NUMBER, or degree NUMBER, or fit COMPARES NUMBER.", () -> {
            ScaleForge f = new ScaleForge();
            yes(f, studies(f, "when sounds 1;end;when degree 1;end;when fit<1;end;"), 3);
            studyFault("when", 2, 4);
            studyFault("when;", 2, 4);
            studyFault("when 1;", 2, 5);
            studyFault("when press 1;", 2, 5);
            studyFault("when sounds;", 2, 11);
            studyFault("when degree;", 2, 11);
            studyFault("when sounds<1;", 2, 11);
            studyFault("when degree=1;", 2, 11);
            studyFault("when fit 1;", 2, 9);
            studyFault("when fit", 2, 8);
            studyFault("when fit<;", 2, 9);
            studyFault("when fit<1", 2, 10);
            studyFault("when fit<1 end;", 2, 11);
        });
        terms(11, "COMPARES: < or > or =", () -> {
            ScaleForge f = new ScaleForge();
            yes(f, studies(f, "when fit<1;end;when fit>1;end;when fit=1;end;"), 3);
            studyFault("when fit;1;", 2, 8);
            studyFault("when fit<>1;", 2, 9);
            studyFault("when fit sounds 1;", 2, 9);
        });
    }

    private static void studyFaults() {
        terms(12, "FAULTS: 1, 2 as above (an end without a beginning; the text's end ahead of an end: 2).", () -> {
            studyFault("any;#", 1, 4);
            studyFault("any 12345", 1, 4);
            studyFault("when 12345;", 1, 5);
            studyFault("when fit 12345 1;", 1, 9);
            studyFault("when fit<00001;", 1, 9);
            studyFault("loop 1;end 00001;", 1, 11);
            studyFault("any", 2, 3);
            studyFault("any \n", 2, 5);
            studyFault("end;", 2, 0);
            studyFault("end", 2, 0);
            studyFault("loop 1;end;any;end;", 2, 15);
            studyFault("loop 1;", 2, 7);
            studyFault("loop 1; ", 2, 8);
            studyFault("hold 1;loop 1;any;end;", 2, 22);
            studyFault("when fit=1;", 2, 11);
        });
        terms(12, "4 a NUMBER that can't be.", () -> {
            studyFault("press 60;", 4, 6);
            studyFault("loop 0;", 4, 5);
            studyFault("loop 100", 4, 5);
            studyFault("loop 100 #", 4, 5);
            studyFault("when fit>0061;", 4, 9);
        });
        terms(12, "6 a 31st STEP (at its WORD; end is none).", () -> {
            studyFault("any;".repeat(31), 6, 120);
            studyFault("any;".repeat(30) + "any", 6, 120);
            studyFault("any;".repeat(30) + " press 99;", 6, 121);
            studyFault("any;".repeat(30) + "ane;", 2, 120);
            studyFault("any;".repeat(30) + "end;", 2, 120);
            studyFault("any;".repeat(29) + "loop 1;loop 1;", 6, 123);
            ScaleForge f = new ScaleForge();
            yes(f, studies(f, "any;".repeat(29) + "loop 1;end;"), 30);
            yes(f, studies(f, "hold 1;end;".repeat(27)), 27);
            yes(f, studies(f, "loop 1;any;end;".repeat(15)), 30);
            no(f, studies(f, "loop 1;any;end;".repeat(15) + "stop;"), 9);
            is(f.fault(0), 6);
            is(f.fault(1), 225);
        });
        terms(12, "7 a hold, when, loop within three others (at its WORD).", () -> {
            ScaleForge f = new ScaleForge();
            yes(f, studies(f, "hold 1;when fit=1;loop 1;any;end;loop 1;end;end;end;"), 5);
            String three = "hold 1;when fit=1;loop 1;";
            studyFault(three + "hold 1;", 7, 25);
            studyFault(three + "when fit=1;", 7, 25);
            studyFault(three + " loop", 7, 26);
            studyFault(three + "hold 99;", 7, 25);
            studyFault(three + "end;any;loop 1;loop 1;", 7, 40);
            studyFault(three + "end;end;end;end;", 2, 37);
            studyFault(three + "any;", 2, 29);
        });
    }

    private static void studyNumbers() {
        terms(12, "NUMBERS are TONES (0 to 59), fit: against 0 to 60;", () -> {
            ScaleForge f = new ScaleForge();
            for (String ahead : new String[] {"press ", "lift ", "root ", "hold ", "when sounds ", "when degree "}) {
                String behind = ahead.startsWith("hold") || ahead.startsWith("when") ? ";end;" : ";";
                yes(f, studies(f, ahead + "0" + behind), 1);
                yes(f, studies(f, ahead + "59" + behind), 1);
                studyFault(ahead + "60" + behind, 4, ahead.length());
            }
            for (String sign : new String[] {"<", ">", "="}) {
                yes(f, studies(f, "when fit" + sign + "0;end;"), 1);
                yes(f, studies(f, "when fit" + sign + "60;end;"), 1);
                studyFault("when fit" + sign + "61;end;", 4, 9);
            }
            // FIT of 2 against one less, itself, one more.
            f = of("sounds 0 2;", "when fit<2;press 1;end;when fit<3;press 3;end;when fit>2;press 5;end;"
                + "when fit>1;press 8;end;when fit=2;press 10;end;when fit=1;press 1;end;when fit=3;press 1;end;");
            yes(f, f.live(0), 10);
            yes(f, f.told(11), 5);
            yes(f, f.soundAt(2), 3);
            yes(f, f.soundAt(3), 8);
            yes(f, f.soundAt(4), 10);
        });
        terms(63, "degree: it is of a DEGREE;", () -> {
            ScaleForge f = of("", "when degree 0;press 0;end;when degree 11;press 11;end;when degree 10;press 10;end;");
            yes(f, f.live(0), 5);
            yes(f, f.told(11), 2);
            // By the ROOT as it is then.
            f = of("length 1;", "when degree 5;press 1;end;root 5;when degree 5;press 2;end;");
            yes(f, f.live(0), 4);
            yes(f, f.soundAt(0), 2);
        });
    }

    private static void holds() {
        terms(65, "hold: the TONE is PRESSED; behind what is within it is let go (LIFTED, if it sounds still; it is let go, in "
            + "LOG, too, if it does not).", () -> {
            ScaleForge f = of("", "hold 1;when sounds 1;press 2;end;end;when sounds 1;press 3;end;");
            yes(f, f.live(0), 4);
            yes(f, f.told(11), 1);
            yes(f, f.recent(1), 1);
            yes(f, f.logAt(0), 1);
            yes(f, f.lived(1), 2);
            yes(f, f.lived(2), 0);
            // It does not sound any more.
            f = of("", "hold 1;lift 1;end;");
            yes(f, f.live(0), 2);
            yes(f, f.lived(3), 1);
            yes(f, f.logAt(0), 1);
            yes(f, f.lived(0), 0);
            // It was PRESSED once more.
            f = of("", "hold 1;lift 1;press 1;end;");
            yes(f, f.live(0), 3);
            yes(f, f.told(11), 0);
            // Nothing within.
            f = of("", "hold 1;end;");
            yes(f, f.live(0), 1);
            yes(f, f.logAt(0), 1);
            yes(f, f.told(11), 0);
        });
        terms(63, "leave: nothing more is done within the innermost hold (nothing more at all, if there is none);", () -> {
            ScaleForge f = of("", "hold 1;hold 2;loop 9;press 3;leave;end;press 4;end;press 5;end;press 6;");
            yes(f, f.live(0), 7);
            yes(f, f.soundAt(0), 3);
            yes(f, f.soundAt(1), 5);
            yes(f, f.soundAt(2), 6);
            no(f, f.soundAt(3), 6);
            f = of("", "loop 2;when fit=0;leave;end;press 1;end;press 2;");
            yes(f, f.live(0), 3);
            yes(f, f.told(11), 0);
            f = of("", "hold 1;leave;press 2;end;press 3;");
            yes(f, f.live(0), 3);
            yes(f, f.told(11), 1);
            yes(f, f.soundAt(0), 3);
            f = of("", "hold 1;loop 2;when fit=0;leave;end;press 2;end;end;press 3;");
            yes(f, f.live(0), 5);
            yes(f, f.told(11), 1);
            f = of("", "leave;press 1;");
            yes(f, f.live(0), 1);
            yes(f, f.told(11), 0);
            // The hold is ended already, or was MISSED: there is none.
            f = of("sounds 3;", "hold 1;end;hold 3;end;leave;press 1;");
            yes(f, f.live(0), 3);
            yes(f, f.told(11), 1);
        });
        terms(63, "stop: nothing more is done.", () -> {
            ScaleForge f = of("", "stop;press 1;");
            yes(f, f.live(0), 1);
            yes(f, f.told(11), 0);
            f = of("", "hold 1;loop 9;press 2;stop;end;press 3;end;press 4;");
            yes(f, f.live(0), 4);
            yes(f, f.told(11), 1);
            yes(f, f.soundAt(0), 2);
        });
    }

    private static void endings() {
        terms(65, "Whatever ends it, the end of what is within, leave, stop, or that 300 STEPS were done, all that is held is "
            + "let go, the latest first.", () -> {
            String[] inside = {"", "leave;", "stop;", "loop 99;root 3;root 4;root 3;root 4;end;"};
            int[] due = {3, 4, 4, 300};
            for (int i = 0; i < inside.length; i++) {
                boolean isCut = i == 3;
                // Three deep at most: the loop takes the place of the third hold.
                ScaleForge f = of("", isCut ? "hold 5;hold 6;" + inside[i] + "end;end;"
                    : "hold 5;hold 6;hold 7;" + inside[i] + "end;end;end;");
                yes(f, f.live(0), due[i]);
                yes(f, f.told(11), 0);
                yes(f, f.lived(3), isCut ? 2 : 3);
                for (int k = 0; k < (isCut ? 2 : 3); k++) {
                    yes(f, f.logAt(k), (isCut ? 6 : 7) - k);
                }
                yes(f, f.lived(4), isCut ? 1 : 0);
            }
        });
        terms(65, "LOG: the TONES that were let go, in that order (the first 60).", () -> {
            ScaleForge f = of("", "hold 1;end;loop 59;hold 2;end;end;hold 3;end;hold 4;end;");
            yes(f, f.live(0), 1 + 60 + 2);
            yes(f, f.lived(3), 62);
            yes(f, f.logAt(0), 1);
            yes(f, f.logAt(1), 2);
            yes(f, f.logAt(59), 2);
            no(f, f.logAt(60), 6);
            no(f, f.logAt(61), 6);
            f = of("", "loop 60;hold 2;end;end;");
            yes(f, f.live(0), 61);
            yes(f, f.logAt(59), 2);
            no(f, f.logAt(60), 6);
            f = of("", "loop 59;hold 2;end;end;");
            yes(f, f.live(0), 60);
            yes(f, f.logAt(58), 2);
            no(f, f.logAt(59), 6);
            f = of("", "press 1;");
            yes(f, f.live(0), 1);
            no(f, f.logAt(0), 6);
        });
    }

    private static void draws() {
        terms(63, "any: a TONE by a draw by PERIOD, a draw by 16 (both first): if that is below ODDS, it is LIFTED, else "
            + "PRESSED.", () -> {
            // Seed 0: 11,527 is by 8 1,440, by 12 0; then 24,594 is by 8 3,074, by 16 2.
            ScaleForge f = of("odds 2;", "any;");
            yes(f, f.live(0), 1);
            yes(f, f.lived(1), 1);
            yes(f, f.soundAt(0), 0);
            f = of("odds 3;sounds 0;", "any;");
            yes(f, f.live(0), 1);
            yes(f, f.lived(2), 1);
            yes(f, f.told(11), 0);
            // By 0 it is always PRESSED, by 16 always LIFTED.
            f = of("odds 0;", "loop 99;any;end;");
            yes(f, f.live(1), 100);
            yes(f, f.lived(2), 0);
            yes(f, f.lived(0) + f.lived(1), 99);
            f = of("odds 16;sounds 0 1 2 3 4 5 6 7 8 9 10 11;", "loop 99;any;end;");
            yes(f, f.live(1), 100);
            yes(f, f.lived(1), 0);
            yes(f, f.lived(0) + f.lived(2), 99);
            // What is MISSED has drawn twice, too: then 62,609 is by 8 7,826, by 12 2, and 6,708 is by 8 838, by 16 6.
            f = of("", "any;any;");
            yes(f, f.live(0), 2);
            yes(f, f.lived(0), 1);
            yes(f, f.lived(1), 1);
            yes(f, f.soundAt(0), 2);
        });
        terms(63, "Draws: s, at first the seed, becomes what is left of s times 3,293 and 11,527 by 65,536;", () -> {
            for (int seed : new int[] {0, 1, 4999, 9998, 9999}) {
                ScaleForge f = of("period 60;odds 0;", "any;any;any;");
                yes(f, f.live(seed), 3);
                // One that comes again is MISSED, and stands in RECENT once.
                List<Long> pressed = new ArrayList<>();
                long s = seed;
                for (int i = 0; i < 3; i++) {
                    s = (s * 3293 + 11527) % 65536;
                    if (!pressed.contains(s / 8 % 60)) {
                        pressed.add(0, s / 8 % 60);
                    }
                    s = (s * 3293 + 11527) % 65536;
                }
                for (int k = 0; k < pressed.size(); k++) {
                    yes(f, f.recent(k), pressed.get(k));
                }
                no(f, f.recent(pressed.size()), 6);
            }
        });
        terms(63, "the draw by n is the rest of s by 8, rounded down, by n.", () -> {
            // Seed 9,999: 39,162 is by 8 4,895 (of 4,895 and a quarter).
            int[][] due = {{2, 1}, {12, 11}, {20, 15}, {60, 35}, {5, 0}};
            for (int[] one : due) {
                ScaleForge f = of("odds 0;period " + one[0] + ";", "any;");
                yes(f, f.live(9999), 1);
                yes(f, f.soundAt(0), one[1]);
            }
        });
    }

    private static void misses() {
        terms(64, "What can't be is MISSED: a press, a hold of what sounds, of a TONE that there is not (what is within a hold is "
            + "not done then, nothing is let go), a lift of what does not, any likewise, a root that there is not, that is "
            + "so.", () -> {
            // By seed 0 any would LIFT 0 (ODDS 4), by 9,999 PRESS 11.
            String[] studies = {"press 1;", "press 12;", "hold 1;press 2;end;", "hold 12;press 2;end;", "lift 2;", "lift 12;",
                "any;", "root 12;", "root 59;", "root 3;", "hold 59;end;", "press 59;", "lift 59;"};
            for (String text : studies) {
                ScaleForge f = of("root 3;sounds 1;", text);
                yes(f, f.live(0), 1);
                yes(f, f.lived(0), 1);
                for (int what = 1; what < 5; what++) {
                    yes(f, f.lived(what), 0);
                }
                yes(f, f.told(11), 1);
                yes(f, f.told(5), 3);
                no(f, f.logAt(0), 6);
                no(f, f.recent(0), 6);
            }
            ScaleForge f = of("sounds 11;", "any;");
            yes(f, f.live(9999), 1);
            yes(f, f.lived(0), 1);
            f = of("sounds 0;", "any;root 11;");
            yes(f, f.live(0), 2);
            yes(f, f.lived(0), 0);
            yes(f, f.told(5), 11);
        });
        terms(63, "A test of a TONE that there is not is not so.", () -> {
            ScaleForge f = of("period 20;sounds 12;", "press 1;");
            f.rule(1, 12);
            studies(f, "when sounds 12;press 1;end;when degree 12;press 1;end;when sounds 59;press 1;end;"
                + "when degree 59;press 1;end;");
            yes(f, f.live(0), 4);
            yes(f, f.told(11), 0);
            yes(f, f.lived(0), 0);
        });
    }

    private static void loops() {
        terms(63, "loop n (1 to 99): as often.", () -> {
            for (int often : new int[] {1, 2, 98, 99}) {
                ScaleForge f = of("", "loop " + often + ";lift 1;end;");
                yes(f, f.live(0), often + 1);
                yes(f, f.lived(0), often);
            }
            ScaleForge f = of("", "loop 3;loop 4;lift 1;end;lift 1;end;");
            yes(f, f.live(0), 1 + 3 * (1 + 4 + 1));
            yes(f, f.lived(0), 15);
            f = of("", "loop 99;end;lift 1;");
            yes(f, f.live(0), 2);
            f = of("", "loop 99;loop 99;end;end;");
            yes(f, f.live(0), 100);
            studyFault("loop 0;end;", 4, 5);
            studyFault("loop 100;end;", 4, 5);
        });
        terms(63, "At most 300 STEPS (hold, when, loop count as one each time they are come to from ahead; end does not).",
            () -> {
                // 100, 100, 99 and one more: 300 and no more; then one more is come to.
                String most = "loop 99;lift 1;end;loop 99;lift 1;end;loop 98;lift 1;end;";
                ScaleForge f = of("", most + "press 1;");
                yes(f, f.live(0), 300);
                yes(f, f.lived(4), 0);
                yes(f, f.told(11), 1);
                f = of("", most + "press 1;press 2;");
                yes(f, f.live(0), 300);
                yes(f, f.lived(4), 1);
                yes(f, f.told(11), 1);
                f = of("", most);
                yes(f, f.live(0), 299);
                yes(f, f.lived(4), 0);
                // A hold, a when that is so and one that is not, within a loop: 1 and three each time.
                f = of("", "loop 10;hold 1;end;when fit=0;end;when fit=1;lift 1;end;end;");
                yes(f, f.live(0), 31);
                f = of("", "loop 99;hold 1;end;when fit=0;end;when fit=1;end;end;");
                yes(f, f.live(0), 298);
                yes(f, f.lived(4), 0);
                f = of("", "loop 99;hold 1;end;when fit=0;end;when fit=1;end;end;lift 1;lift 1;lift 1;");
                yes(f, f.live(0), 300);
                yes(f, f.lived(4), 1);
                // The 300th is a hold: it is let go, nothing within it is done.
                f = of("", most + "hold 2;end;");
                yes(f, f.live(0), 300);
                yes(f, f.lived(4), 0);
                yes(f, f.logAt(0), 2);
                f = of("", most + "hold 2;press 3;end;");
                yes(f, f.live(0), 300);
                yes(f, f.lived(4), 1);
                yes(f, f.logAt(0), 2);
                yes(f, f.told(11), 0);
            });
    }

    private static void livesAndMarks() {
        terms(63, "LIVED by a seed (0 to 9,999): all is as it is then.", () -> {
            ScaleForge f = of("", "press 1;root 2;");
            no(f, f.live(-1), 1);
            no(f, f.live(10000), 1);
            is(f.told(11), 0);
            yes(f, f.live(0), 2);
            is(f.told(11), 1);
            is(f.told(5), 2);
            is(f.recent(0), 1);
            yes(f, f.live(9999), 2);
            is(f.lived(0), 2);
        });
        terms(67, "MARKS, at most 3: the SCALE with all that became of it, RECENT, the STUDIES are kept as they are;", () -> {
            ScaleForge f = new ScaleForge();
            for (int many = 1; many <= 3; many++) {
                yes(f, f.mark(), many);
            }
            no(f, f.mark(), 4);
            yes(f, f.undo(), 2);
            yes(f, f.mark(), 3);
            ScaleForge g = of("odds 1;period 20;generator 3;length 4;down 5;root 6;nominals 2;right 8;up 9;sounds 19;",
                "press 5;press 6;");
            g.press(7);
            g.mark();
            scale(g, "sounds 3;");
            studies(g, "press 8;");
            g.live(0);
            yes(g, g.undo(), 0);
            int[] due = {1, 20, 3, 4, 5, 6, 2, 8, 9, 4, 2, 2};
            for (int what = 0; what < due.length; what++) {
                is(g.told(what), due[what]);
            }
            yes(g, g.soundAt(0), 7);
            yes(g, g.soundAt(1), 19);
            yes(g, g.recent(0), 7);
            no(g, g.recent(1), 6);
            yes(g, g.live(0), 2);
        });
        terms(68, "all is taken back to the latest MARK, which is gone then.", () -> {
            ScaleForge f = new ScaleForge();
            f.mark();
            f.press(1);
            f.mark();
            f.press(2);
            f.mark();
            f.press(3);
            for (int left = 2; left >= 0; left--) {
                yes(f, f.undo(), left);
                yes(f, f.told(11), left);
            }
            no(f, f.undo(), 6);
            // STUDIES that were not there at the MARK are not there again.
            ScaleForge g = new ScaleForge();
            g.mark();
            studies(g, "press 1;");
            g.undo();
            no(g, g.live(0), 6);
        });
    }

    private static void fractions() {
        terms(3, "FRACTIONS are told by top() and bottom() without a common divisor, the bottom above 0; 0 is 0 by 1.", () -> {
            ScaleForge f = of("odds 8;");
            is(f.top(), 0);
            is(f.bottom(), 1);
            fraction(f, f.mistuned(1, 1), 1, 2);
            fraction(f, f.mistuned(12, 12), 1, 4096);
            fraction(f, f.mistuned(12, 0), 1, 1);
            fraction(f, f.mistuned(1, 2), 0, 1);
            f = of("length 4;");
            fraction(f, f.share(0), 1, 2);
            f = of("length 3;period 60;generator 20;");
            fraction(f, f.share(0), 1, 1);
            fraction(f, f.ratio(), 1, 1);
            f = of("sounds 1 2;", "any;lift 3;");
            is(f.mean(0, 20), true);
            is(f.bottom() > 0, true);
        });
        terms(1, "The constants: `NONE = -1`: None.", () -> is(ScaleForge.NONE, -1));
    }

    // ---- 5: STATUS

    private static void statusNumbers() {
        terms(2, "1 a number that can't be; no such TRAY, TONE, DEGREE.", () -> {
            ScaleForge f = new ScaleForge();
            no(f, f.chain(61), 1);
            no(f, f.copyScale(4), 1);
            no(f, f.nearest(12), 1);
            no(f, f.step(7), 1);
            for (int extreme : new int[] {Integer.MIN_VALUE, Integer.MAX_VALUE}) {
                no(f, f.copyScale(extreme), 1);
                no(f, f.nearest(extreme), 1);
                no(f, f.step(extreme), 1);
                no(f, f.chain(extreme), 1);
            }
        });
        terms(2, "2 the TRAY is MISSING.", () -> {
            ScaleForge f = new ScaleForge();
            no(f, f.read(3, 0), 2);
            no(f, f.write(3, 0, 1), 2);
            no(f, f.copyScale(3), 2);
            no(f, f.steps(3, 0), 2);
            no(f, f.pour(3, 0, 3, 0, 0), 2);
        });
        terms(2, "3 a place that the TRAY has not, or too few numbers.", () -> {
            ScaleForge f = new ScaleForge();
            f.tray(0, 0, 6);
            no(f, f.read(0, 6), 3);
            no(f, f.write(0, 6, 1), 3);
            no(f, f.read(0, -1), 3);
            no(f, f.write(0, -1, 1), 3);
            no(f, f.copyScale(0), 3);
            no(f, f.steps(0, 7), 3);
        });
        terms(2, "4 one too many.", () -> {
            ScaleForge f = new ScaleForge();
            f.mark();
            f.mark();
            yes(f, f.mark(), 3);
            no(f, f.mark(), 4);
        });
        terms(2, "5 a number in a TRAY that can't be.", () -> {
            ScaleForge f = new ScaleForge();
            f.tray(0, 0, 2);
            f.write(0, 1, 12);
            no(f, f.steps(0, 2), 5);
            yes(f, f.steps(0, 1), 0);
            f.write(0, 1, -1);
            no(f, f.steps(0, 2), 5);
            f.write(0, 1, 11);
            yes(f, f.steps(0, 2), 1);
        });
        terms(2, "6 there is none such.", () -> {
            ScaleForge f = new ScaleForge();
            no(f, f.degree(1), 6);
            no(f, f.recent(0), 6);
            no(f, f.undo(), 6);
            no(f, f.live(0), 6);
        });
        terms(2, "7 it can't be.", () -> {
            ScaleForge f = new ScaleForge();
            no(f, f.lift(0), 7);
            no(f, f.rule(1, 12), 7);
            f.rule(4, 7);
            no(f, f.flip(), 7);
        });
        terms(2, "8 TRAYS are of unlike sorts.", () -> {
            ScaleForge f = new ScaleForge();
            f.tray(0, 0, 1);
            f.tray(1, 1, 1);
            no(f, f.pour(0, 0, 1, 0, 0), 8);
            f.tray(1, 0, 1);
            yes(f, f.pour(0, 0, 1, 0, 0));
        });
        terms(2, "9 a FAULT.", () -> {
            ScaleForge f = new ScaleForge();
            no(f, scale(f, "odds"), 9);
            no(f, studies(f, "end;"), 9);
        });
        terms(2, "0 else.", () -> {
            ScaleForge f = new ScaleForge();
            no(f, f.told(12), 1);
            yes(f, f.told(11), 0);
            no(f, f.tray(4, 0, 0), 1);
            yes(f, f.tray(3, 0, 0));
        });
    }

    private static void statusOrder() {
        terms(2, "STATUS of a call is the first of these that holds:", () -> {
            ScaleForge f = new ScaleForge();
            f.tray(0, 0, 2);
            f.tray(1, 1, 2);
            f.write(0, 1, 99);
            // 1 ahead of 2, 3, 5, 6, 7.
            no(f, f.steps(3, 61), 1);
            no(f, f.steps(0, 61), 1);
            no(f, f.steps(4, 2), 1);
            no(f, f.lived(5), 1);
            no(f, f.live(10000), 1);
            no(f, f.mean(0, 21), 1);
            no(f, f.simplest(12, 0), 1);
            no(f, f.keyOf(0, 2), 1);
            no(f, f.rule(1, 61), 1);
            no(f, f.pour(3, -1, 0, 0, 1), 1);
            // 2 ahead of 3, 3 ahead of 5.
            no(f, f.read(3, -1), 2);
            no(f, f.write(3, 60, 1), 2);
            no(f, f.copyScale(2), 2);
            no(f, f.steps(0, 3), 3);
            no(f, f.steps(0, 2), 5);
        });
        terms(2, "status(), top(), bottom(), feed(), fault() have none.", () -> {
            ScaleForge f = new ScaleForge();
            no(f, f.told(12), 1);
            f.status();
            f.top();
            f.bottom();
            f.feed(1, 2, 3, 4, 5);
            f.fault(0);
            f.fault(9);
            is(f.status(), 1);
            for (int i = 0; i < 45; i++) {
                f.feed(1, 2, 3, 4, 5);
            }
            is(f.feed(1, 2, 3, 4, 5), -1);
            is(f.status(), 1);
            yes(f, f.told(1), 12);
            f.feed(1, 2, 3, 4, 5);
            f.fault(9);
            is(f.status(), 0);
        });
        terms(38, "Where a number may be below 0 (sharps(), simplest()), STATUS tells NONE from -1.", () -> {
            ScaleForge f = new ScaleForge();
            yes(f, f.sharps(-7), -1);
            no(f, f.sharps(-61), 1);
            yes(f, f.simplest(1, 1), -1);
            yes(f, f.simplest(5, 2), -1);
            no(f, f.simplest(12, 1), 1);
            f.rule(2, 6);
            no(f, f.simplest(1, 1), 6);
        });
    }

    /** An object of which there is something of all, with a text on its tape. */
    private static ScaleForge rich() {
        ScaleForge f = of("odds 5;period 20;generator 11;length 9;down 2;root 3;nominals 5;right 4;up 3;sounds 1 19;",
            "hold 6;any;end;press 7;");
        f.press(4);
        f.mark();
        f.live(3);
        f.press(12);
        f.mark();
        f.tray(0, 1, 3);
        f.write(0, 1, 99);
        f.tray(1, 1, 2);
        f.tray(2, 2, 2);
        f.convergent(2);
        feed(f, "length 3;");
        return f;
    }

    private static ScaleForge full() {
        ScaleForge f = rich();
        f.mark();
        for (int tone = 13; tone < 19; tone++) {
            f.press(tone);
        }
        f.rule(4, 9);
        return f;
    }

    private static void refusals() {
        terms(2, "With another STATUS than 0 a call gives NONE, or false, and changes nothing else (but scale(), studies() with "
            + "9 the tape, and what fault() tells).", () -> {
            refusedTrays();
            refusedNumbers();
            refusedPlaces();
            refusedTexts();
        });
    }

    private static void refusedTrays() {
        denies(TermsTest::rich, f -> f.tray(0, 0, 61), 1);
        denies(TermsTest::rich, f -> f.tray(0, 4, 1), 1);
        denies(TermsTest::rich, f -> f.write(4, 0, 7), 1);
        denies(TermsTest::rich, f -> f.write(3, 0, 7), 2);
        denies(TermsTest::rich, f -> f.write(0, 3, 7), 3);
        refuses(TermsTest::rich, f -> f.read(0, 3), 3);
        denies(TermsTest::rich, f -> f.pour(0, 0, 1, 0, -1), 1);
        denies(TermsTest::rich, f -> f.pour(0, 0, 3, 0, 1), 2);
        denies(TermsTest::rich, f -> f.pour(0, 0, 2, 0, 1), 8);
        denies(TermsTest::rich, f -> f.pour(0, 1, 1, 1, 2), 3);
        refuses(TermsTest::rich, f -> f.copyScale(3), 2);
        refuses(TermsTest::rich, f -> f.copyScale(0), 3);
        refuses(TermsTest::rich, f -> f.steps(0, 4), 3);
        refuses(TermsTest::rich, f -> f.steps(0, 2), 5);
    }

    private static void refusedNumbers() {
        refuses(TermsTest::rich, f -> f.told(12), 1);
        refuses(TermsTest::rich, f -> f.rule(1, 61), 1);
        refuses(TermsTest::rich, f -> f.rule(2, 20), 1);
        refuses(TermsTest::rich, f -> f.rule(9, 1), 1);
        refuses(TermsTest::rich, f -> f.rule(1, 20), 7);
        refuses(TermsTest::rich, f -> f.press(20), 1);
        refuses(TermsTest::rich, f -> f.press(1), 7);
        refuses(TermsTest::rich, f -> f.lift(20), 1);
        refuses(TermsTest::rich, f -> f.lift(0), 7);
        refuses(TermsTest::rich, f -> f.glide(60), 1);
        refuses(TermsTest::rich, f -> f.glide(-1), 1);
        refuses(TermsTest::full, f -> f.flip(), 7);
        refuses(TermsTest::full, f -> f.way(), 7);
        refuses(TermsTest::full, f -> f.wayAt(0), 7);
        refuses(TermsTest::full, f -> f.mark(), 4);
        refuses(ScaleForge::new, f -> f.undo(), 6);
        refuses(TermsTest::rich, f -> f.live(10000), 1);
        refuses(ScaleForge::new, f -> f.live(0), 6);
        refuses(TermsTest::rich, f -> f.lived(5), 1);
        refuses(ScaleForge::new, f -> f.lived(0), 6);
        denies(TermsTest::rich, f -> f.mean(9999, 2), 1);
        denies(ScaleForge::new, f -> f.mean(0, 1), 6);
    }

    private static void refusedPlaces() {
        denies(TermsTest::rich, f -> f.convergent(99), 6);
        denies(TermsTest::rich, f -> f.share(3), 6);
        denies(TermsTest::rich, f -> f.mistuned(13, 0), 1);
        refuses(TermsTest::rich, f -> f.logAt(60), 6);
        refuses(TermsTest::rich, f -> f.soundAt(20), 6);
        refuses(TermsTest::rich, f -> f.recent(12), 6);
        refuses(TermsTest::rich, f -> f.sizeAt(3), 6);
        refuses(TermsTest::rich, f -> f.sizeMany(3), 6);
        refuses(TermsTest::rich, f -> f.lengthAt(23), 6);
        refuses(TermsTest::rich, f -> f.modeBy(9), 6);
        refuses(TermsTest::rich, f -> f.guessAt(20), 6);
        refuses(TermsTest::rich, f -> f.span(0, 25), 1);
        refuses(TermsTest::rich, f -> f.shapes(4), 1);
        refuses(TermsTest::rich, f -> f.common(20), 1);
    }

    private static void refusedTexts() {
        // With 1 the tape stays, with 9 it is empty; all else is as it was.
        refuses(TermsTest::rich, f -> f.scale(21), 1);
        refuses(TermsTest::rich, f -> f.scale(-1), 1);
        refuses(TermsTest::rich, f -> f.studies(21), 1);
        refuses(TermsTest::rich, f -> f.studies(-1), 1);
        ScaleForge f = rich();
        no(f, f.scale(20), 9);
        is(f.fault(0), 1);
        is(f.fault(1), 9);
        sameButTexts(f, rich());
        is(f.feed(0, 0, 0, 0, 0), 20);
        f = rich();
        no(f, f.studies(9), 9);
        is(f.fault(0), 2);
        is(f.fault(1), 0);
        sameButTexts(f, rich());
        is(f.feed(0, 0, 0, 0, 0), 20);
    }
}
