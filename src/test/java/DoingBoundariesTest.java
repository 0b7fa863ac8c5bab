/** Each sentence of promises 1 to 28 (trays, texts, what is done) with its boundary cases. */
public final class DoingBoundariesTest extends Bench {
    public static void main(String[] args) {
        newObjects();
        statusAndFractions();
        trays();
        pours();
        pourRefusals();
        feeding();
        takingScales();
        takingStudies();
        faults();
        telling();
        chainsAndTones();
        stepsAndSpans();
        sizes();
        rules();
        rulesOfPeriod();
        pressing();
        sifting();
        gliding();
        flipping();
        soundingAndRecent();
        areQuotedWhole(1, 28);
        finish();
    }

    private static ScaleForge plain() {
        return new ScaleForge();
    }

    // ---- 1 to 4

    private static void newObjects() {
        promise(1, "A SCALE as without any PART;", () -> {
            ScaleForge f = new ScaleForge();
            ScaleForge g = of("");
            int[] due = {4, 12, 7, 7, 0, 0, 7, 2, 1, 7, 2, 0};
            for (int what = 0; what < due.length; what++) {
                yes(f, f.told(what), due[what]);
                yes(g, g.told(what), due[what]);
            }
        });
        promise(1, "nothing sounds;", () -> {
            ScaleForge f = new ScaleForge();
            yes(f, f.told(11), 0);
            no(f, f.soundAt(0), 6);
            no(f, f.recent(0), 6);
            yes(f, f.fit(), 0);
            yes(f, f.sift(), 0);
        });
        promise(1, "no STUDIES, MARKS;", () -> {
            ScaleForge f = new ScaleForge();
            no(f, f.live(0), 6);
            no(f, f.mean(0, 1), 6);
            no(f, f.lived(0), 6);
            no(f, f.logAt(0), 6);
            no(f, f.undo(), 6);
            yes(f, f.mark(), 1);
        });
        promise(1, "TRAYS are MISSING;", () -> {
            ScaleForge f = new ScaleForge();
            for (int tray = 0; tray < 4; tray++) {
                no(f, f.read(tray, 0), 2);
                no(f, f.write(tray, 0, 0), 2);
            }
        });
        promise(1, "an empty tape;", () -> {
            ScaleForge f = new ScaleForge();
            no(f, f.scale(1), 1);
            no(f, f.studies(1), 1);
            yes(f, f.scale(0), 7);
            is(f.feed(0, 0, 0, 0, 0), 20);
        });
        promise(1, "the FRACTION 0 by 1;", () -> {
            ScaleForge f = new ScaleForge();
            is(f.top(), 0);
            is(f.bottom(), 1);
        });
        promise(1, "STATUS 0.", () -> {
            ScaleForge f = new ScaleForge();
            is(f.status(), 0);
            no(f, f.told(12), 1);
            // An object of its own: another one's calls are not told.
            is(new ScaleForge().status(), 0);
        });
    }

    private static void statusAndFractions() {
        promise(2, "STATUS of the latest call that has one.", () -> {
            ScaleForge f = new ScaleForge();
            no(f, f.degree(1), 6);
            is(f.status(), 6);
            no(f, f.degree(12), 1);
            f.fault(0);
            f.top();
            f.bottom();
            f.feed(0, 0, 0, 0, 0);
            is(f.status(), 1);
            yes(f, f.degree(0), 0);
        });
        promise(3, "The top of the FRACTION told latest.", () -> {
            ScaleForge f = new ScaleForge();
            fraction(f, f.convergent(3), 3, 5);
            no(f, f.convergent(5), 6);
            no(f, f.share(2), 6);
            no(f, f.mistuned(13, 0), 1);
            no(f, f.mean(0, 1), 6);
            is(f.top(), 3);
            f.rule(2, 6);
            f.scale(0);
            is(f.top(), 3);
            fraction(f, f.mistuned(0, 1), 0, 1);
            is(f.top(), 0);
        });
        promise(4, "Its bottom, above 0.", () -> {
            ScaleForge f = new ScaleForge();
            is(f.bottom(), 1);
            fraction(f, f.convergent(3), 3, 5);
            no(f, f.convergent(-1), 6);
            is(f.bottom(), 5);
            fraction(f, f.mistuned(12, 13 - 1), 1, 1L << 24);
            fraction(f, f.mistuned(0, 1), 0, 1);
            is(f.bottom(), 1);
        });
    }

    // ---- 5 to 8

    private static void trays() {
        promise(5, "A TRAY is a row of so many 0s", () -> {
            ScaleForge f = new ScaleForge();
            yes(f, f.tray(3, 3, 60));
            yes(f, f.write(3, 0, 9));
            yes(f, f.write(3, 59, 9));
            // Made anew, it is 0s again; with fewer numbers the others are gone.
            yes(f, f.tray(3, 3, 60));
            yes(f, f.read(3, 0), 0);
            yes(f, f.read(3, 59), 0);
            yes(f, f.write(3, 1, 9));
            yes(f, f.tray(3, 0, 1));
            no(f, f.read(3, 1), 3);
            yes(f, f.tray(3, 0, 2));
            yes(f, f.read(3, 1), 0);
            yes(f, f.tray(3, 0, 0));
            no(f, f.read(3, 0), 3);
        });
        promise(5, "(1).", () -> {
            bounds(DoingBoundariesTest::plain, 0, 3, 1, (f, n) -> truth(f.tray(n, 0, 1)));
            bounds(DoingBoundariesTest::plain, 0, 3, 1, (f, n) -> truth(f.tray(0, n, 1)));
            bounds(DoingBoundariesTest::plain, 0, 60, 1, (f, n) -> truth(f.tray(0, 0, n)));
        });
        promise(6, "A number comes to a place of a TRAY, cut to its sort", () -> {
            ScaleForge f = new ScaleForge();
            long v = 0x89ABCDEF89ABCDEFL;
            long[] due = {(byte) v, (short) v, (int) v, v};
            for (int sort = 0; sort < 4; sort++) {
                yes(f, f.tray(1, sort, 3));
                yes(f, f.write(1, 1, v));
                yes(f, f.read(1, 1), due[sort]);
                yes(f, f.read(1, 0), 0);
                yes(f, f.read(1, 2), 0);
            }
            yes(f, f.write(1, 0, Long.MIN_VALUE));
            yes(f, f.read(1, 0), Long.MIN_VALUE);
        });
        promise(6, "(1, 2, 3).", () -> {
            bounds(DoingBoundariesTest::withTrays, 0, 3, 1, (f, n) -> truth(f.write(n, 0, 7)));
            bounds(DoingBoundariesTest::withTrays, 0, 4, 3, (f, n) -> truth(f.write(0, n, 7)));
            bounds(DoingBoundariesTest::withTrays, 0, 59, 3, (f, n) -> truth(f.write(3, n, 7)));
            ScaleForge f = new ScaleForge();
            no(f, f.write(0, 0, 7), 2);
            no(f, f.write(0, -1, 7), 2);
            f.tray(0, 0, 0);
            no(f, f.write(0, 0, 7), 3);
        });
        promise(7, "The number in a place of a TRAY;", () -> {
            ScaleForge f = withTrays();
            for (int place = 0; place < 5; place++) {
                yes(f, f.read(0, place), 10 + place);
            }
        });
        promise(7, "STATUS tells NONE from -1", () -> {
            ScaleForge f = withTrays();
            f.write(0, 4, -1);
            yes(f, f.read(0, 4), -1);
            no(f, f.read(0, 5), 3);
            f.tray(0, 0, 1);
            f.write(0, 0, 255);
            yes(f, f.read(0, 0), -1);
        });
        promise(7, "(1, 2, 3).", () -> {
            bounds(DoingBoundariesTest::withTrays, 0, 3, 1, (f, n) -> f.read(n, 0));
            bounds(DoingBoundariesTest::withTrays, 0, 4, 3, (f, n) -> f.read(0, n));
            ScaleForge f = new ScaleForge();
            no(f, f.read(0, 0), 2);
            no(f, f.read(0, -1), 2);
        });
    }

    /** TRAYS of 5 and 4 numbers of sort 1, of 5 numbers of sort 2, of 60 numbers of sort 3. */
    private static ScaleForge withTrays() {
        ScaleForge f = new ScaleForge();
        f.tray(0, 1, 5);
        f.tray(1, 1, 4);
        f.tray(2, 2, 5);
        f.tray(3, 3, 60);
        for (int place = 0; place < 5; place++) {
            f.write(0, place, 10 + place);
        }
        return f;
    }

    private static ScaleForge withSameTrays() {
        ScaleForge f = new ScaleForge();
        for (int tray = 0; tray < 4; tray++) {
            f.tray(tray, 2, 1);
        }
        return f;
    }

    private static void areNumbers(ScaleForge f, int tray, int... due) {
        for (int place = 0; place < due.length; place++) {
            yes(f, f.read(tray, place), due[place]);
        }
        no(f, f.read(tray, due.length), 3);
    }

    private static void pours() {
        promise(8, "So many numbers of a TRAY, from a place on, come to another one's (or its own) place on, as they were",
            () -> {
                ScaleForge f = withTrays();
                yes(f, f.pour(0, 1, 1, 0, 4));
                areNumbers(f, 1, 11, 12, 13, 14);
                areNumbers(f, 0, 10, 11, 12, 13, 14);
                // Its own, over itself, up and down.
                yes(f, f.pour(0, 0, 0, 1, 4));
                areNumbers(f, 0, 10, 10, 11, 12, 13);
                yes(f, f.pour(0, 2, 0, 0, 3));
                areNumbers(f, 0, 11, 12, 13, 12, 13);
                yes(f, f.pour(0, 0, 0, 0, 5));
                areNumbers(f, 0, 11, 12, 13, 12, 13);
                // Those that are not told stay.
                yes(f, f.pour(0, 0, 1, 1, 2));
                areNumbers(f, 1, 11, 11, 12, 14);
            });
        promise(8, "with none to come the place just behind the last one is there, too;", () -> {
            ScaleForge f = withTrays();
            yes(f, f.pour(0, 5, 1, 4, 0));
            yes(f, f.pour(0, 0, 1, 4, 0));
            yes(f, f.pour(0, 5, 1, 0, 0));
            no(f, f.pour(0, 6, 1, 4, 0), 3);
            no(f, f.pour(0, 5, 1, 5, 0), 3);
            f.tray(0, 1, 0);
            yes(f, f.pour(0, 0, 0, 0, 0));
            no(f, f.pour(0, 1, 0, 0, 0), 3);
            areNumbers(f, 1, 0, 0, 0, 0);
        });
    }

    private static void pourRefusals() {
        promise(8, "(1: below 0, too;", () -> {
            bounds(DoingBoundariesTest::withSameTrays, 0, 3, 1, (f, n) -> truth(f.pour(n, 0, 0, 0, 1)));
            bounds(DoingBoundariesTest::withSameTrays, 0, 3, 1, (f, n) -> truth(f.pour(0, 0, n, 0, 1)));
            for (int less : new int[] {-1, Integer.MIN_VALUE}) {
                ScaleForge f = withTrays();
                no(f, f.pour(0, less, 1, 0, 1), 1);
                no(f, f.pour(0, 0, 1, less, 1), 1);
                no(f, f.pour(0, 0, 1, 0, less), 1);
            }
        });
        promise(8, "2;", () -> {
            ScaleForge f = withTrays();
            ScaleForge g = new ScaleForge();
            g.tray(0, 1, 5);
            no(g, g.pour(0, 0, 1, 0, 1), 2);
            no(g, g.pour(1, 0, 0, 0, 1), 2);
            no(g, g.pour(1, 0, 1, 0, 0), 2);
            yes(f, f.pour(0, 0, 1, 0, 1));
        });
        promise(8, "8;", () -> {
            ScaleForge f = withTrays();
            no(f, f.pour(0, 0, 2, 0, 1), 8);
            no(f, f.pour(2, 0, 0, 0, 0), 8);
        });
        promise(8, "3:", () -> {
            ScaleForge f = withTrays();
            yes(f, f.pour(0, 4, 1, 3, 1));
            no(f, f.pour(0, 5, 1, 3, 1), 3);
            no(f, f.pour(0, 4, 1, 4, 1), 3);
            no(f, f.pour(0, 1, 0, 0, 5), 3);
            no(f, f.pour(0, 0, 0, 1, 5), 3);
            no(f, f.pour(0, 1, 1, 0, Integer.MAX_VALUE), 3);
            no(f, f.pour(0, Integer.MAX_VALUE, 1, 0, 1), 3);
            no(f, f.pour(0, 0, 1, Integer.MAX_VALUE, Integer.MAX_VALUE), 3);
            areNumbers(f, 1, 0, 0, 0, 14);
        });
        promise(8, "asked in this order).", () -> {
            ScaleForge f = withTrays();
            no(f, f.pour(0, 9, 2, 0, -1), 1);
            no(f, f.pour(0, 9, 2, 9, 9), 8);
            f = new ScaleForge();
            f.tray(0, 1, 5);
            no(f, f.pour(0, 9, 1, 9, 9), 2);
            no(f, f.pour(1, -1, 1, 9, 9), 1);
            no(f, f.pour(1, 0, 4, 9, 9), 1);
        });
    }

    // ---- 9 to 12

    private static int four(String text) {
        int found = 0;
        for (int i = 0; i < 4; i++) {
            found = found << 8 | text.charAt(i) & 255;
        }
        return found;
    }

    private static void feeding() {
        promise(9, "Twenty bytes come behind those on the tape, the highest of each int first:", () -> {
            ScaleForge f = new ScaleForge();
            f.feed(four("leng"), four("th 3"), four(";   "), four("    "), four("odds"));
            f.feed(four(" 11;"), four("    "), four("    "), four("    "), four("up 9"));
            f.feed(four(";   "), four("    "), four("    "), four("    "), four("    "));
            yes(f, f.scale(60), 3);
            is(f.told(0), 11);
            is(f.told(8), 9);
            // A byte above 127 is no blank, letter, digit, wherever it stands.
            for (int place = 0; place < 4; place++) {
                f.feed(0x20202020 | 0x80 << 24 - 8 * place, 0, 0, 0, 0);
                no(f, f.scale(20), 9);
                is(f.fault(0), 1);
                is(f.fault(1), place);
            }
        });
        promise(9, "how many it has;", () -> {
            ScaleForge f = new ScaleForge();
            is(f.feed(0, 0, 0, 0, 0), 20);
            is(f.feed(0, 0, 0, 0, 0), 40);
            no(f, f.scale(41), 1);
            is(f.feed(0, 0, 0, 0, 0), 60);
            no(f, f.scale(60), 9);
            is(f.feed(0, 0, 0, 0, 0), 20);
            no(f, f.studies(20), 9);
            is(f.feed(0, 0, 0, 0, 0), 20);
        });
        promise(9, "NONE if there would be more than 900.", () -> {
            ScaleForge f = new ScaleForge();
            int blanks = four("    ");
            for (int i = 1; i <= 45; i++) {
                is(f.feed(blanks, blanks, blanks, blanks, blanks), 20 * i);
            }
            is(f.feed(0, 0, 0, 0, 0), -1);
            is(f.feed(0, 0, 0, 0, 0), -1);
            is(f.status(), 0);
            // What was not taken is not on the tape, and all else is.
            yes(f, f.scale(900), 7);
            is(f.feed(0, 0, 0, 0, 0), 20);
        });
    }

    private static void takingScales() {
        promise(10, "The first n bytes of the tape (which is empty then) are the SCALE:", () -> {
            ScaleForge f = new ScaleForge();
            feed(f, "length 11;length 12;");
            yes(f, f.scale(10), 11);
            is(f.told(3), 11);
            no(f, f.scale(1), 1);
            feed(f, "length 11;length 12;");
            yes(f, f.scale(0), 7);
            no(f, f.scale(1), 1);
            is(f.feed(0, 0, 0, 0, 0), 20);
        });
        promise(10, "how many DEGREES", () -> {
            ScaleForge f = new ScaleForge();
            yes(f, scale(f, "length 1;"), 1);
            yes(f, scale(f, "period 60;length 24;"), 24);
            yes(f, scale(f, "length 24;"), 12);
            yes(f, scale(f, "generator 0;length 24;"), 1);
            yes(f, scale(f, "period 2;"), 2);
        });
        promise(10, "(1: n below 0, or more than the tape has, too;", () -> {
            bounds(() -> {
                ScaleForge f = new ScaleForge();
                feed(f, " ".repeat(40));
                return f;
            }, 0, 40, 1, (f, n) -> f.scale(n));
            bounds(DoingBoundariesTest::plain, 0, 0, 1, (f, n) -> f.scale(n));
            // The tape stays.
            ScaleForge f = new ScaleForge();
            feed(f, padded("length 3;", "", 20));
            no(f, f.scale(21), 1);
            no(f, f.scale(-1), 1);
            yes(f, f.scale(20), 3);
        });
        promise(10, "9: the old one stays).", () -> {
            ScaleForge f = of("period 20;length 9;sounds 3;", "press 5;");
            f.press(4);
            no(f, scale(f, "period 30;length 8;odds 17;"), 9);
            is(f.told(1), 20);
            is(f.told(3), 9);
            is(f.told(0), 4);
            is(f.told(11), 2);
            is(f.recent(0), 4);
            yes(f, f.live(0), 1);
            is(f.feed(0, 0, 0, 0, 0), 20);
            // Nothing of the one with a FAULT is in the next one.
            yes(f, f.scale(0), 7);
            is(f.told(1), 12);
        });
    }

    private static void takingStudies() {
        promise(11, "Likewise the STUDIES:", () -> {
            ScaleForge f = new ScaleForge();
            feed(f, "press 1;press 2;");
            yes(f, f.studies(8), 1);
            yes(f, f.live(0), 1);
            is(f.told(11), 1);
            no(f, f.studies(1), 1);
            is(f.feed(0, 0, 0, 0, 0), 20);
            // They are there in place of those ahead.
            f.scale(0);
            studies(f, "press 1;press 2;");
            yes(f, studies(f, "press 3;"), 1);
            yes(f, f.live(0), 1);
            is(f.soundAt(0), 3);
            yes(f, f.studies(0), 0);
            yes(f, f.live(0), 0);
        });
        promise(11, "how many STEPS", () -> {
            ScaleForge f = new ScaleForge();
            yes(f, f.studies(0), 0);
            yes(f, studies(f, "any;"), 1);
            yes(f, studies(f, "loop 9;any;end;"), 2);
            yes(f, studies(f, "any;".repeat(30)), 30);
            // A text with a FAULT leaves nothing for the next one: neither what is open, nor a TEST's bounds.
            no(f, studies(f, "loop 1;loop 1;loop 1;any"), 9);
            yes(f, studies(f, "loop 1;end;any;"), 2);
            yes(f, studies(f, "when fit=60;end;"), 1);
            no(f, studies(f, "press 60;"), 9);
            is(f.fault(0), 4);
        });
        promise(11, "(1: above 300, too;", () -> {
            bounds(() -> {
                ScaleForge f = new ScaleForge();
                feed(f, " ".repeat(320));
                return f;
            }, 0, 300, 1, (f, n) -> f.studies(n));
            bounds(() -> {
                ScaleForge f = new ScaleForge();
                feed(f, " ".repeat(40));
                return f;
            }, 0, 40, 1, (f, n) -> f.studies(n));
            // The tape stays: by scale() it may be longer.
            ScaleForge f = new ScaleForge();
            feed(f, padded("length 3;", "", 320));
            no(f, f.studies(301), 1);
            yes(f, f.scale(320), 3);
        });
        promise(11, "9).", () -> {
            ScaleForge f = of("", "press 5;press 6;");
            no(f, studies(f, "press 7;press 60;"), 9);
            yes(f, f.live(0), 2);
            is(f.soundAt(0), 5);
            is(f.soundAt(1), 6);
            is(f.feed(0, 0, 0, 0, 0), 20);
        });
    }

    private static void faults() {
        promise(12, "Of the latest scale() or studies() with STATUS 0 or 9,", () -> {
            ScaleForge f = new ScaleForge();
            no(f, scale(f, "odds 17;"), 9);
            is(f.fault(0), 4);
            // With 1 it is not told of.
            no(f, f.scale(-1), 1);
            no(f, f.studies(301), 1);
            is(f.fault(0), 4);
            is(f.fault(1), 5);
            no(f, studies(f, "  end;"), 9);
            is(f.fault(0), 2);
            is(f.fault(1), 2);
            yes(f, f.studies(0), 0);
            is(f.fault(0), 0);
            is(f.fault(1), -1);
            no(f, scale(f, "#"), 9);
            is(f.fault(0), 1);
            is(f.fault(1), 0);
            yes(f, f.scale(0), 7);
            is(f.fault(0), 0);
            is(f.fault(1), -1);
        });
        promise(12, "what 0: the FAULT (0 without one),", () -> {
            ScaleForge f = new ScaleForge();
            f.scale(0);
            is(f.fault(0), 0);
            String[] texts = {"#", "end;", "press 60;", "any;".repeat(31), "loop 1;loop 1;loop 1;loop 1;"};
            int[] due = {1, 2, 4, 6, 7};
            for (int i = 0; i < due.length; i++) {
                no(f, studies(f, texts[i]), 9);
                is(f.fault(0), due[i]);
            }
            no(f, scale(f, "odds 1;odds 1;"), 9);
            is(f.fault(0), 5);
        });
        promise(12, "1: its place (NONE without).", () -> {
            ScaleForge f = new ScaleForge();
            f.scale(0);
            is(f.fault(1), -1);
            no(f, scale(f, "#"), 9);
            is(f.fault(1), 0);
            no(f, scale(f, padded("", "#", 900)), 9);
            is(f.fault(1), 899);
            no(f, scale(f, padded("odds", "", 900)), 9);
            is(f.fault(1), 900);
        });
        promise(12, "NONE for others, and ahead of any.", () -> {
            ScaleForge f = new ScaleForge();
            is(f.fault(0), -1);
            is(f.fault(1), -1);
            no(f, f.scale(-1), 1);
            no(f, f.studies(1), 1);
            is(f.fault(0), -1);
            f.scale(0);
            for (int what : new int[] {-1, 2, Integer.MIN_VALUE, Integer.MAX_VALUE}) {
                is(f.fault(what), -1);
            }
        });
    }

    // ---- 13 to 20

    private static void telling() {
        promise(13, "ODDS (what 0), PERIOD (1), GENERATOR (2), LENGTH (3), DOWN (4), ROOT (5), NOMINALS (6), RIGHT (7), UP (8);",
            () -> {
                ScaleForge f = of("odds 16;period 60;generator 59;length 24;down 23;root 58;nominals 1;right 57;up 56;");
                int[] due = {16, 60, 59, 24, 23, 58, 1, 57, 56};
                for (int what = 0; what < due.length; what++) {
                    yes(f, f.told(what), due[what]);
                }
            });
        promise(13, "how many DEGREES (9), SIZES (10), TONES that sound (11)", () -> {
            ScaleForge f = of("length 4;sounds 11;");
            yes(f, f.told(9), 4);
            yes(f, f.told(10), 3);
            yes(f, f.told(11), 1);
            f = of("length 1;");
            yes(f, f.told(9), 1);
            yes(f, f.told(10), 1);
            yes(f, f.told(11), 0);
        });
        promise(13, "(1).", () -> bounds(DoingBoundariesTest::plain, 0, 11, 1, (f, n) -> f.told(n)));
    }

    private static void chainsAndTones() {
        promise(14, "CHAIN of k (-60 to 60)", () -> {
            ScaleForge f = of("period 59;generator 1;");
            yes(f, f.chain(60), 1);
            yes(f, f.chain(59), 0);
            yes(f, f.chain(-60), 58);
            yes(f, f.chain(-59), 0);
            yes(f, f.chain(0), 0);
        });
        promise(14, "(1).", () -> bounds(DoingBoundariesTest::plain, -60, 60, 1, (f, n) -> f.chain(n)));
        promise(15, "The TONE of a DEGREE", () -> {
            // 10 5 0.
            ScaleForge f = of("root 10;length 3;");
            yes(f, f.tone(0), 0);
            yes(f, f.tone(2), 10);
            is(of("period 60;length 1;root 59;").tone(0), 59);
        });
        promise(15, "(1).", () -> {
            bounds(DoingBoundariesTest::plain, 0, 6, 1, (f, n) -> f.tone(n));
            bounds(() -> of("length 1;"), 0, 0, 1, (f, n) -> f.tone(n));
            bounds(() -> of("period 60;length 24;"), 0, 23, 1, (f, n) -> f.tone(n));
        });
        promise(16, "The DEGREE of a TONE", () -> {
            ScaleForge f = of("root 10;length 3;");
            yes(f, f.degree(0), 0);
            yes(f, f.degree(5), 1);
            yes(f, f.degree(10), 2);
            f = of("period 60;root 59;length 1;");
            yes(f, f.degree(59), 0);
        });
        promise(16, "(1;", () -> bounds(() -> of("length 12;"), 0, 11, 1, (f, n) -> f.degree(n)));
        promise(16, "6: of none).", () -> {
            ScaleForge f = of("root 10;length 3;");
            for (int tone : new int[] {1, 4, 6, 9, 11}) {
                no(f, f.degree(tone), 6);
            }
            no(f, f.degree(12), 1);
        });
    }

    private static void stepsAndSpans() {
        promise(17, "STEP of a DEGREE", () -> {
            ScaleForge f = of("root 10;length 3;");
            yes(f, f.step(0), 5);
            yes(f, f.step(2), 2);
            is(of("period 60;length 1;root 59;").step(0), 60);
            is(of("period 2;length 1;").step(0), 2);
        });
        promise(17, "(1).", () -> {
            bounds(DoingBoundariesTest::plain, 0, 6, 1, (f, n) -> f.step(n));
            bounds(() -> of("length 1;"), 0, 0, 1, (f, n) -> f.step(n));
        });
        promise(18, "SPAN of a DEGREE by n (0 to 24)", () -> {
            ScaleForge f = new ScaleForge();
            yes(f, f.span(6, 0), 0);
            yes(f, f.span(6, 1), 1);
            yes(f, f.span(6, 2), 3);
            yes(f, f.span(6, 7), 12);
            yes(f, f.span(6, 8), 13);
            // Three rounds and three more: 1 2 2.
            yes(f, f.span(6, 24), 41);
            is(of("period 60;length 24;").span(23, 24), 60);
            is(of("period 2;length 1;").span(0, 24), 48);
        });
        promise(18, "(1).", () -> {
            bounds(DoingBoundariesTest::plain, 0, 6, 1, (f, n) -> f.span(n, 0));
            bounds(DoingBoundariesTest::plain, 0, 24, 1, (f, n) -> f.span(0, n));
        });
    }

    private static void sizes() {
        promise(19, "The k-th of the SIZES, from 0 on", () -> {
            ScaleForge f = of("length 4;");
            yes(f, f.sizeAt(0), 2);
            yes(f, f.sizeAt(2), 5);
        });
        promise(19, "(6: no such, below 0, too).", () -> {
            bounds(() -> of("length 4;"), 0, 2, 6, (f, n) -> f.sizeAt(n));
            bounds(() -> of("length 1;"), 0, 0, 6, (f, n) -> f.sizeAt(n));
        });
        promise(20, "How many STEPS are of it", () -> {
            ScaleForge f = of("length 4;");
            yes(f, f.sizeMany(0), 2);
            yes(f, f.sizeMany(1), 1);
            yes(f, f.sizeMany(2), 1);
            is(of("length 1;").sizeMany(0), 1);
            is(of("length 24;").sizeMany(0), 12);
            is(of("period 48;generator 2;length 24;").sizeMany(0), 24);
        });
        promise(20, "(6: no such, below 0, too).", () -> {
            bounds(() -> of("length 4;"), 0, 2, 6, (f, n) -> f.sizeMany(n));
            bounds(() -> of("length 1;"), 0, 0, 6, (f, n) -> f.sizeMany(n));
        });
    }

    // ---- 21 to 28

    private static void rules() {
        promise(21, "PERIOD (what 1), GENERATOR (2), LENGTH (3), DOWN (4), ROOT (5), NOMINALS (6), RIGHT (7), UP (8), ODDS (0) "
            + "from now on, by the bounds told;", () -> {
            int[][] edges = {{0, 16}, {2, 60}, {0, 11}, {1, 24}, {0, 23}, {0, 11}, {1, 7}, {0, 11}, {0, 11}};
            for (int what = 0; what < 9; what++) {
                for (int much : edges[what]) {
                    ScaleForge f = of("odds 3;generator 3;length 3;down 3;root 3;nominals 3;right 3;up 3;");
                    is(f.rule(what, much) > 0, true);
                    is(f.status(), 0);
                    yes(f, f.told(what), much);
                }
            }
        });
        promise(21, "how many DEGREES there are then", () -> {
            ScaleForge f = new ScaleForge();
            yes(f, f.rule(3, 1), 1);
            yes(f, f.rule(3, 24), 12);
            yes(f, f.rule(1, 60), 24);
            yes(f, f.rule(2, 0), 1);
            yes(f, f.rule(2, 30), 2);
            yes(f, f.rule(0, 0), 2);
            yes(f, f.rule(1, 2), 1);
        });
        promise(21, "(1;", () -> {
            int[][] edges = {{0, 16}, {2, 60}, {0, 11}, {1, 24}, {0, 23}, {0, 11}, {1, 7}, {0, 11}, {0, 11}};
            for (int what = 0; what < 9; what++) {
                int part = what;
                bounds(() -> of("odds 3;generator 3;length 3;down 3;root 3;nominals 3;right 3;up 3;"), edges[what][0],
                    edges[what][1], 1, (f, n) -> f.rule(part, n));
            }
            for (int part : new int[] {2, 5, 7, 8}) {
                bounds(() -> of("period 60;root 3;"), 0, 59, 1, (f, n) -> f.rule(part, n));
            }
            bounds(() -> of("length 3;nominals 3;"), 0, 8, 1, (f, n) -> f.rule(n, 6));
            ScaleForge g = new ScaleForge();
            no(g, g.rule(9, 0), 1);
            no(g, g.rule(-1, 0), 1);
            no(g, g.rule(9, 7), 1);
        });
        promise(21, "7: it is so).", () -> {
            ScaleForge f = of("odds 3;generator 4;length 5;down 6;root 7;nominals 6;right 9;up 10;");
            int[] now = {3, 12, 4, 5, 6, 7, 6, 9, 10};
            for (int what = 0; what < 9; what++) {
                no(f, f.rule(what, now[what]), 7);
            }
            // Folded by another PERIOD, it is as it is then.
            f.rule(1, 3);
            no(f, f.rule(2, 1), 7);
            no(f, f.rule(2, 4), 1);
        });
    }

    private static void rulesOfPeriod() {
        promise(21, "by a PERIOD that is less what sounds beyond it does not any more,", () -> {
            ScaleForge f = of("period 60;sounds 0 18 19 20 21 59;");
            f.rule(1, 20);
            yes(f, f.told(11), 3);
            yes(f, f.soundAt(2), 19);
            // It does not come again by a PERIOD that is more.
            f.rule(1, 60);
            yes(f, f.told(11), 3);
            yes(f, f.press(20), 4);
            f.rule(1, 2);
            yes(f, f.told(11), 1);
            yes(f, f.soundAt(0), 0);
        });
        promise(21, "GENERATOR, ROOT, RIGHT, UP are folded:", () -> {
            ScaleForge f = of("period 60;generator 59;root 58;right 57;up 20;length 24;down 23;nominals 7;odds 16;");
            f.rule(1, 20);
            int[] due = {16, 20, 19, 24, 23, 18, 7, 17, 0};
            for (int what = 0; what < 9; what++) {
                yes(f, f.told(what), due[what]);
            }
            f.rule(1, 60);
            yes(f, f.told(2), 19);
            yes(f, f.told(5), 18);
            f.rule(1, 2);
            yes(f, f.told(2), 1);
            yes(f, f.told(5), 0);
            yes(f, f.told(7), 1);
        });
    }

    private static void pressing() {
        promise(22, "PRESS: how many sound then", () -> {
            ScaleForge f = of("period 60;");
            for (int tone = 59; tone >= 0; tone--) {
                yes(f, f.press(tone), 60 - tone);
            }
        });
        promise(22, "(1;", () -> {
            bounds(DoingBoundariesTest::plain, 0, 11, 1, (f, n) -> f.press(n));
            bounds(() -> of("period 60;"), 0, 59, 1, (f, n) -> f.press(n));
            bounds(() -> of("period 2;"), 0, 1, 1, (f, n) -> f.press(n));
        });
        promise(22, "7: it sounds).", () -> {
            ScaleForge f = of("sounds 0;");
            no(f, f.press(0), 7);
            yes(f, f.press(11), 2);
            no(f, f.press(11), 7);
            yes(f, f.lift(11), 1);
            yes(f, f.press(11), 2);
            yes(f, f.recent(1), 11);
            no(f, f.recent(2), 6);
        });
        promise(23, "LIFT: how many sound then", () -> {
            ScaleForge f = of("sounds 0 11;");
            yes(f, f.lift(11), 1);
            yes(f, f.lift(0), 0);
        });
        promise(23, "(1;", () -> bounds(() -> of("sounds 0 11;"), 0, 11, 1, (f, n) -> f.lift(n)));
        promise(23, "7: it does not).", () -> {
            ScaleForge f = of("sounds 0;");
            no(f, f.lift(11), 7);
            yes(f, f.lift(0), 0);
            no(f, f.lift(0), 7);
        });
    }

    private static void sifting() {
        promise(24, "All that sound and are of no DEGREE are LIFTED: how many.", () -> {
            ScaleForge f = of("sounds 0 1 2 3 4 5 6 7 8 9 10 11;");
            yes(f, f.sift(), 5);
            yes(f, f.told(11), 7);
            yes(f, f.fit(), 7);
            yes(f, f.sift(), 0);
            f = of("");
            yes(f, f.sift(), 0);
            f = of("length 1;sounds 1 11;");
            f.press(2);
            yes(f, f.sift(), 3);
            yes(f, f.told(11), 0);
            // LIFTED: it stays in RECENT.
            yes(f, f.recent(0), 2);
        });
    }

    private static void gliding() {
        promise(25, "All TONES that sound are n (0 to 59) higher, folded: FIT then", () -> {
            ScaleForge f = of("sounds 0 11;");
            f.press(5);
            yes(f, f.glide(0), 2);
            yes(f, f.soundAt(2), 11);
            // 1 6 0.
            yes(f, f.glide(1), 2);
            yes(f, f.soundAt(0), 0);
            yes(f, f.soundAt(1), 1);
            yes(f, f.soundAt(2), 6);
            // By 59, 11 of 12: 11 0 5.
            yes(f, f.glide(59), 2);
            yes(f, f.soundAt(2), 11);
            yes(f, f.glide(12), 2);
            yes(f, f.soundAt(2), 11);
            yes(f, f.glide(24), 2);
            yes(f, f.soundAt(1), 5);
            yes(f, f.recent(0), 5);
            f = of("period 60;sounds 59 0;");
            yes(f, f.glide(59), 0);
            yes(f, f.soundAt(0), 58);
            yes(f, f.soundAt(1), 59);
            is(of("").glide(59), 0);
        });
        promise(25, "(1).", () -> bounds(() -> of("sounds 3;"), 0, 59, 1, (f, n) -> f.glide(n)));
    }

    private static void flipping() {
        promise(26, "GENERATOR becomes PERIOD less it, folded, DOWN becomes LENGTH less 1 less it:", () -> {
            ScaleForge f = of("down 2;");
            f.flip();
            yes(f, f.told(2), 5);
            yes(f, f.told(4), 4);
            f.flip();
            yes(f, f.told(2), 7);
            yes(f, f.told(4), 2);
            f = of("generator 0;length 1;");
            f.flip();
            yes(f, f.told(2), 0);
            yes(f, f.told(4), 0);
            f = of("period 60;generator 59;length 24;");
            f.flip();
            yes(f, f.told(2), 1);
            yes(f, f.told(4), 23);
        });
        promise(26, "how many DEGREES there are then", () -> {
            // The same TONES: what was up is down.
            ScaleForge f = of("down 2;root 3;");
            int[] tones = new int[7];
            for (int d = 0; d < 7; d++) {
                tones[d] = f.tone(d);
            }
            yes(f, f.flip(), 7);
            for (int d = 0; d < 7; d++) {
                yes(f, f.tone(d), tones[d]);
            }
            is(of("generator 0;").flip(), 1);
            is(of("generator 6;").flip(), 2);
        });
        promise(26, "(7: DOWN is LENGTH or more).", () -> {
            ScaleForge f = of("length 5;down 5;");
            no(f, f.flip(), 7);
            yes(f, f.told(2), 7);
            yes(f, f.told(4), 5);
            f = of("length 5;down 6;");
            no(f, f.flip(), 7);
            f = of("length 5;down 4;");
            yes(f, f.flip(), 5);
            yes(f, f.told(4), 0);
            f = of("length 1;down 1;");
            no(f, f.flip(), 7);
            f = of("length 1;down 23;");
            no(f, f.flip(), 7);
        });
    }

    private static void soundingAndRecent() {
        promise(27, "The k-th TONE that sounds, from 0 on, rising", () -> {
            ScaleForge f = of("period 60;sounds 59 30 0;");
            yes(f, f.soundAt(0), 0);
            yes(f, f.soundAt(1), 30);
            yes(f, f.soundAt(2), 59);
        });
        promise(27, "(6: no such, below 0, too).", () -> {
            bounds(() -> of("sounds 3 5;"), 0, 1, 6, (f, n) -> f.soundAt(n));
            ScaleForge f = of("");
            no(f, f.soundAt(0), 6);
        });
        promise(28, "The k-th of RECENT, from 0 on", () -> {
            ScaleForge f = of("sounds 9;");
            f.press(3);
            f.press(5);
            f.lift(3);
            f.press(3);
            yes(f, f.recent(0), 3);
            yes(f, f.recent(1), 5);
            yes(f, f.recent(2), 3);
        });
        promise(28, "(6: no such, below 0, too).", () -> {
            bounds(() -> {
                ScaleForge f = new ScaleForge();
                f.press(3);
                f.press(5);
                return f;
            }, 0, 1, 6, (f, n) -> f.recent(n));
            bounds(() -> {
                ScaleForge f = of("period 60;");
                for (int tone = 0; tone < 20; tone++) {
                    f.press(tone);
                }
                return f;
            }, 0, 11, 6, (f, n) -> f.recent(n));
            ScaleForge f = of("sounds 3;");
            no(f, f.recent(0), 6);
        });
    }
}
