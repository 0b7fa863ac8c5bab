/** For each promise of the document: ordinary inputs, the edges that it names, and wrong inputs. */
public final class PromisesTest extends Bench {
    public static void main(String[] args) {
        newObjects();
        trays();
        tape();
        scaleTexts();
        scaleFaults();
        studyFaults();
        degrees();
        rules();
        sounding();
        modes();
        names();
        keys();
        guesses();
        ways();
        fractions();
        trayScales();
        lives();
        lifeEnds();
        means();
        marks();
        finish();
    }

    // ---- promises

    private static void newObjects() {
        at(1);
        ScaleForge f = new ScaleForge();
        is(f.status(), 0);
        is(f.top(), 0);
        is(f.bottom(), 1);
        is(f.fault(0), -1);
        is(f.fault(1), -1);
        int[] due = {4, 12, 7, 7, 0, 0, 7, 2, 1, 7, 2, 0};
        for (int what = 0; what < due.length; what++) {
            is(f.told(what), due[what]);
        }
        no(f, f.live(0), 6);
        no(f, f.lived(0), 6);
        no(f, f.logAt(0), 6);
        no(f, f.recent(0), 6);
        no(f, f.soundAt(0), 6);
        no(f, f.undo(), 6);
        no(f, f.read(0, 0), 2);
        no(f, f.scale(1), 1);
        is(f.feed(0, 0, 0, 0, 0), 20);

        at(2);
        ScaleForge g = new ScaleForge();
        no(g, g.told(12), 1);
        g.feed(1, 2, 3, 4, 5);
        is(g.top(), 0);
        is(g.bottom(), 1);
        is(g.fault(7), -1);
        is(g.status(), 1);
        is(g.told(0), 4);
        is(g.status(), 0);

        at(3);
        fraction(g, g.convergent(3), 3, 5);
        no(g, g.convergent(9), 6);
        is(g.top(), 3);
        at(4);
        is(g.bottom(), 5);
        fraction(g, g.mistuned(0, 1), 0, 1);
    }

    private static void trays() {
        ScaleForge f = new ScaleForge();
        at(5);
        no(f, f.tray(-1, 0, 1), 1);
        no(f, f.tray(4, 0, 1), 1);
        no(f, f.tray(0, -1, 1), 1);
        no(f, f.tray(0, 4, 1), 1);
        no(f, f.tray(0, 0, -1), 1);
        no(f, f.tray(0, 0, 61), 1);
        no(f, f.read(0, 0), 2);
        is(f.tray(0, 0, 60), true);
        is(f.status(), 0);
        is(f.read(0, 59), 0);
        is(f.write(0, 59, 9), true);
        is(f.write(0, 0, 9), true);
        is(f.tray(0, 0, 60), true);
        is(f.read(0, 59), 0);
        is(f.read(0, 0), 0);
        is(f.tray(3, 3, 0), true);
        no(f, f.read(3, 0), 3);

        at(6);
        long v = 0x1234567890ABCDEFL;
        for (int sort = 0; sort < 4; sort++) {
            is(f.tray(1, sort, 3), true);
            is(f.write(1, 2, v), true);
            is(f.read(1, 2), sort == 0 ? (byte) v : sort == 1 ? (short) v : sort == 2 ? (int) v : v);
            is(f.read(1, 1), 0);
        }
        no(f, f.write(-1, 0, 1), 1);
        no(f, f.write(4, 0, 1), 1);
        no(f, f.write(2, 0, 1), 2);
        no(f, f.write(2, -1, 1), 2);
        no(f, f.write(1, 3, 1), 3);
        no(f, f.write(1, -1, 1), 3);

        at(7);
        no(f, f.read(4, 0), 1);
        no(f, f.read(-1, 0), 1);
        no(f, f.read(2, 0), 2);
        no(f, f.read(1, 3), 3);
        no(f, f.read(1, -1), 3);
        is(f.write(1, 0, -1), true);
        is(f.read(1, 0), -1);
        is(f.status(), 0);

        at(8);
        pours();
    }

    private static void pours() {
        ScaleForge f = new ScaleForge();
        f.tray(0, 1, 5);
        f.tray(1, 1, 4);
        f.tray(2, 2, 5);
        for (int i = 0; i < 5; i++) {
            f.write(0, i, 10 + i);
        }
        is(f.pour(0, 1, 1, 0, 4), true);
        is(f.read(1, 0), 11);
        is(f.read(1, 3), 14);
        is(f.pour(0, 0, 0, 1, 4), true);
        int[] due = {10, 10, 11, 12, 13};
        for (int i = 0; i < 5; i++) {
            is(f.read(0, i), due[i]);
        }
        is(f.pour(0, 2, 0, 0, 3), true);
        is(f.read(0, 0), 11);
        is(f.read(0, 2), 13);
        is(f.read(0, 3), 12);
        is(f.pour(0, 5, 1, 4, 0), true);
        no(f, f.pour(0, 6, 1, 0, 0), 3);
        no(f, f.pour(0, 0, 1, 5, 0), 3);
        no(f, f.pour(0, 5, 1, 0, 1), 3);
        no(f, f.pour(0, 0, 1, 0, 5), 3);
        no(f, f.pour(0, 1, 1, 0, Integer.MAX_VALUE), 3);
        no(f, f.pour(0, Integer.MAX_VALUE, 1, Integer.MAX_VALUE, Integer.MAX_VALUE), 3);
        no(f, f.pour(0, 0, 2, 0, 9), 8);
        no(f, f.pour(0, 0, 3, 0, 1), 2);
        no(f, f.pour(3, 0, 0, 0, 1), 2);
        no(f, f.pour(3, -1, 0, 0, 1), 1);
        no(f, f.pour(0, 0, 3, -1, 1), 1);
        no(f, f.pour(0, 0, 3, 0, -1), 1);
        no(f, f.pour(4, 0, 3, 0, 1), 1);
        no(f, f.pour(0, 0, -1, 0, 1), 1);
    }

    private static void tape() {
        at(9);
        ScaleForge f = new ScaleForge();
        f.told(99);
        for (int i = 1; i <= 45; i++) {
            is(f.feed(0x20202020, 0x20202020, 0x20202020, 0x20202020, 0x20202020), 20 * i);
        }
        is(f.feed(0, 0, 0, 0, 0), -1);
        is(f.status(), 1);

        at(10);
        no(f, f.scale(901), 1);
        no(f, f.scale(-1), 1);
        is(f.fault(0), -1);
        is(f.scale(900), 7);
        is(f.fault(0), 0);
        is(f.fault(1), -1);
        is(f.feed(0, 0, 0, 0, 0), 20);
        is(f.scale(0), 7);
        no(f, f.scale(1), 1);

        at(11);
        for (int i = 1; i <= 16; i++) {
            f.feed(0x20202020, 0x20202020, 0x20202020, 0x20202020, 0x20202020);
        }
        no(f, f.studies(301), 1);
        no(f, f.studies(-1), 1);
        is(f.studies(300), 0);
        is(f.status(), 0);
        is(f.studies(0), 0);
        is(f.status(), 0);
        no(f, f.studies(1), 1);

        at(12);
        is(f.fault(-1), -1);
        is(f.fault(2), -1);
        is(f.fault(0), 0);
        no(f, scale(f, "up ;"), 9);
        is(f.fault(0), 2);
        is(f.fault(1), 3);
        no(f, f.scale(-1), 1);
        is(f.fault(0), 2);
        is(f.feed(0, 0, 0, 0, 0), 20);
    }

    private static void scaleTexts() {
        at(10);
        ScaleForge f = new ScaleForge();
        is(scale(f, "odds 16;period 31;generator 18;length 12;down 3;root 30;nominals 5;right 5;up 3;sounds 1 30 0;"), 12);
        int[] due = {16, 31, 18, 12, 3, 30, 5, 5, 3, 12};
        for (int what = 0; what < due.length; what++) {
            is(f.told(what), due[what]);
        }
        is(f.told(11), 3);
        is(f.soundAt(2), 30);
        no(f, f.recent(0), 6);
        is(scale(f, "\nsounds\n5 ;  period0012"), -1);
        is(scale(f, "period0007;sounds;sounds 6 sounds".substring(0, 26) + ";sounds 0;"), 1);
        is(f.told(1), 7);
        is(f.told(2), 0);
        is(f.told(11), 2);
        is(scale(f, "period 2;"), 2);
        is(f.told(2), 1);
        is(f.told(7), 0);
        is(f.told(8), 1);
        is(scale(f, "period 5;"), 5);
        is(f.told(2), 2);
        is(f.told(7), 2);
        is(scale(f, "period 60;generator 59;length 24;down 23;root 59;right 59;up 59;sounds 59;"), 24);
        is(f.told(11), 1);

        f = of("", "press 1;");
        f.press(3);
        is(f.recent(0), 3);
        is(f.live(1), 1);
        is(scale(f, "period 10;sounds 3;"), 7);
        no(f, f.recent(0), 6);
        no(f, f.live(1), 6);
        is(f.told(11), 1);
        is(f.lived(1), 1);
        no(f, f.undo(), 6);
    }

    private static void scaleFaults() {
        at(12);
        scaleFault("odds 17;", 4, 5);
        scaleFault("period 1;", 4, 7);
        scaleFault("period 61;", 4, 7);
        scaleFault("generator 12;", 4, 10);
        scaleFault("period 9;generator 9;", 4, 19);
        scaleFault("length 0;", 4, 7);
        scaleFault("length 25;", 4, 7);
        scaleFault("down 24;", 4, 5);
        scaleFault("root 12;", 4, 5);
        scaleFault("nominals 0;", 4, 9);
        scaleFault("nominals 8;", 4, 9);
        scaleFault("right 12;", 4, 6);
        scaleFault("up 12;", 4, 3);
        scaleFault("sounds 12;", 4, 7);
        scaleFault("odds 1;odds", 5, 7);
        scaleFault("period 5;period 5;", 5, 9);
        scaleFault("generator 5;period 12;", 5, 12);
        scaleFault("root 5;period 12;", 5, 7);
        scaleFault("right 5;period 12;", 5, 8);
        scaleFault("up 5;period 12;", 5, 5);
        scaleFault("sounds;period 12;", 5, 7);
        scaleFault("length 5;length 5;", 5, 9);
        scaleFault("down 5;down 5;", 5, 7);
        scaleFault("nominals 5;nominals 5;", 5, 11);
        scaleFault("sounds 1 2 1;", 5, 11);
        scaleFault("sounds 1;sounds 1;", 5, 16);
        scaleFault("odds 00001;", 1, 5);
        scaleFault("xdds 1;", 2, 0);
        scaleFault("oddx 1;", 2, 0);
        cutFault("odds 12;", 6, 2, 6);
        cutFault("odds 5  ;", 6, 2, 6);
        cutFault("odds 5  ;", 7, 2, 7);
        cutFault("period 12;", 5, 2, 0);
        cutFault("odds 1;sounds;", 12, 2, 7);
        scaleFault("12345", 1, 0);
        scaleFault("sounds 12345;", 1, 7);
        scaleFault("z 1;", 2, 0);
        scaleFault("a 1;", 2, 0);
        scaleFault("`", 1, 0);
        scaleFault("{", 1, 0);
        scaleFault("odds /", 1, 5);
        scaleFault("odds :", 1, 5);
        scaleFault("odds 1;A", 1, 7);
        scaleFault("odds\t1;", 1, 4);
        scaleFault("odds -1;", 1, 5);
        scaleFault("odds 1\u00e9", 1, 6);
        scaleFault("odds", 2, 4);
        scaleFault("odds  \n", 2, 7);
        scaleFault("odds 1", 2, 6);
        scaleFault("odds 1 2;", 2, 7);
        scaleFault("odds odds;", 2, 5);
        scaleFault("odds;", 2, 4);
        scaleFault(";", 2, 0);
        scaleFault("5;", 2, 0);
        scaleFault("<", 2, 0);
        scaleFault("sound 1;", 2, 0);
        scaleFault("soundss 1;", 2, 0);
        scaleFault("sounds 1", 2, 8);
        scaleFault("sounds 1 up;", 2, 9);
        scaleFault("sounds 99=", 4, 7);
        scaleFault("press 1;", 2, 0);
    }

    private static void studyFaults() {
        at(11);
        ScaleForge f = new ScaleForge();
        is(studies(f, "press 0;lift 59;root 1;any;hold 2;leave;end;when sounds 0;stop;end;loop 99;end;"), 9);
        is(studies(f, "when fit<60;when fit > 0;when fit=60;end;end;end;when degree59;end;"), 4);
        is(studies(f, "any;".repeat(30)), 30);
        is(studies(f, "hold 1;end;".repeat(20)), 20);
        is(studies(f, "when fit = 60;" + "any;".repeat(29) + "end;"), 30);
        is(f.fault(0), 0);
        is(f.fault(1), -1);

        at(12);
        studyFault("press 60;", 4, 6);
        studyFault("lift 60;", 4, 5);
        studyFault("root 60;", 4, 5);
        studyFault("hold 60;", 4, 5);
        studyFault("loop 0;", 4, 5);
        studyFault("loop 100;", 4, 5);
        studyFault("when sounds 60;", 4, 12);
        studyFault("when degree 60;", 4, 12);
        studyFault("when fit < 61;", 4, 11);
        studyFault("when fit 6;", 2, 9);
        studyFault("when fit ; 6;", 2, 9);
        studyFault("when sounds < 6;", 2, 12);
        studyFault("when 6;", 2, 5);
        studyFault("when press 6;", 2, 5);
        studyFault("when fit < 6 end;", 2, 13);
        studyFault("end;", 2, 0);
        studyFault("hold 1;end;end;", 2, 11);
        studyFault("hold 1;", 2, 7);
        studyFault("hold 1;end", 2, 10);
        studyFault("hold 1;\n", 2, 8);
        studyFault("press;", 2, 5);
        studyFault("any 1;", 2, 4);
        studyFault("leave", 2, 5);
        studyFault("sounds 1;", 2, 0);
        studyFault("PRESS", 1, 0);
        studyFault("when 12345;", 1, 5);
        studyFault("when fit 12345 1;", 1, 9);
        studyFault("hold 1;end 12345", 1, 11);
        studyFault("press 00001;", 1, 6);
        studyFault("any;".repeat(30) + "any;", 6, 120);
        studyFault("any;".repeat(30) + "end;", 2, 120);
        studyFault("any;".repeat(30) + "foo;", 2, 120);
        studyFault("loop 1;loop 1;loop 1;loop 1;", 7, 21);
        studyFault("hold 1;when fit=0;loop 2;hold", 7, 25);
        studyFault("loop 1;loop 1;loop 1;end;loop 1;any;when fit=1;", 7, 36);
        studyFault("loop 1;loop 1;loop 1;" + "any;".repeat(27) + "loop 1;", 6, 129);
    }

    private static void degrees() {
        at(13);
        ScaleForge f = new ScaleForge();
        no(f, f.told(-1), 1);
        no(f, f.told(12), 1);

        at(14);
        is(f.chain(60), 0);
        is(f.chain(-60), 0);
        is(f.chain(-59), 7);
        no(f, f.chain(-61), 1);
        no(f, f.chain(61), 1);
        f.rule(4, 2);
        f.rule(5, 3);
        is(f.chain(2), 3);
        is(f.chain(0), 1);

        // 12 by 7 down 2 from 3: 1 8 3 10 5 0 7.
        at(15);
        int[] tones = {0, 1, 3, 5, 7, 8, 10};
        for (int d = 0; d < 7; d++) {
            is(f.tone(d), tones[d]);
        }
        no(f, f.tone(7), 1);
        no(f, f.tone(-1), 1);

        at(16);
        is(f.degree(10), 6);
        is(f.degree(0), 0);
        no(f, f.degree(2), 6);
        no(f, f.degree(11), 6);
        no(f, f.degree(12), 1);
        no(f, f.degree(-1), 1);

        at(17);
        is(f.step(0), 1);
        is(f.step(6), 2);
        no(f, f.step(7), 1);
        no(f, f.step(-1), 1);
        ScaleForge one = of("period 60;length 1;root 7;");
        is(one.step(0), 60);
        no(one, one.step(1), 1);

        at(18);
        is(one.span(0, 24), 1440);
        is(one.span(0, 0), 0);
        is(f.span(5, 3), 5);
        is(f.span(5, 10), 17);
        is(f.span(3, 7), 12);
        no(f, f.span(0, 25), 1);
        no(f, f.span(0, -1), 1);
        no(f, f.span(7, 1), 1);

        at(19);
        is(one.sizeAt(0), 60);
        no(one, one.sizeAt(1), 6);
        no(one, one.sizeAt(-1), 6);
        // 12 by 7 of 4: 0 2 7 9.
        f = of("length 4;");
        is(f.sizeAt(0), 2);
        is(f.sizeAt(1), 3);
        is(f.sizeAt(2), 5);
        is(f.told(10), 3);

        at(20);
        is(f.sizeMany(0), 2);
        is(f.sizeMany(1), 1);
        is(f.sizeMany(2), 1);
        no(f, f.sizeMany(3), 6);
        no(f, f.sizeMany(-1), 6);
        is(one.sizeMany(0), 1);
    }

    private static void rules() {
        at(21);
        ScaleForge f = new ScaleForge();
        int[][] bounds = {{0, 16}, {2, 60}, {0, 11}, {1, 24}, {0, 23}, {0, 11}, {1, 7}, {0, 11}, {0, 11}};
        for (int what = 0; what < 9; what++) {
            for (int side = 0; side < 2 && what != 1; side++) {
                f = new ScaleForge();
                int much = bounds[what][side];
                int now = f.told(what);
                if (now != much) {
                    is(f.rule(what, much) > 0, true);
                }
                is(f.told(what), much);
                no(f, f.rule(what, much), 7);
            }
            no(f, f.rule(what, bounds[what][0] - 1), 1);
            no(f, f.rule(what, bounds[what][1] + 1), 1);
        }
        no(f, f.rule(9, 1), 1);
        no(f, f.rule(-1, 1), 1);

        f = of("period 20;generator 11;root 19;right 17;up 13;sounds 5 6 7 19;");
        f.press(8);
        f.press(4);
        is(f.rule(1, 6), 6);
        is(f.told(2), 5);
        is(f.told(5), 1);
        is(f.told(7), 5);
        is(f.told(8), 1);
        is(f.told(11), 2);
        is(f.soundAt(0), 4);
        is(f.soundAt(1), 5);
        is(f.recent(0), 4);
        is(f.recent(1), 8);
        no(f, f.rule(1, 6), 7);
        is(f.rule(1, 60), 7);
        is(f.told(11), 2);
        is(f.told(2), 5);
        is(f.rule(2, 59), 7);
        no(f, f.rule(2, 60), 1);
        is(f.rule(2, 0), 1);

        at(26);
        f = new ScaleForge();
        is(f.rule(4, 2), 7);
        is(f.flip(), 7);
        is(f.told(2), 5);
        is(f.told(4), 4);
        is(f.flip(), 7);
        is(f.told(2), 7);
        is(f.told(4), 2);
        is(f.rule(4, 7), 7);
        no(f, f.flip(), 7);
        is(f.told(2), 7);
        is(f.rule(4, 6), 7);
        is(f.flip(), 7);
        is(f.told(4), 0);
        is(f.rule(2, 0), 1);
        is(f.flip(), 1);
        is(f.told(2), 0);
    }

    private static void sounding() {
        at(22);
        ScaleForge f = new ScaleForge();
        is(f.press(11), 1);
        is(f.press(0), 2);
        no(f, f.press(0), 7);
        no(f, f.press(12), 1);
        no(f, f.press(-1), 1);

        at(23);
        is(f.lift(11), 1);
        no(f, f.lift(11), 7);
        no(f, f.lift(12), 1);
        no(f, f.lift(-1), 1);

        at(28);
        f.lift(0);
        is(f.recent(0), 0);
        is(f.recent(1), 11);
        no(f, f.recent(2), 6);
        no(f, f.recent(-1), 6);
        for (int i = 0; i < 12; i++) {
            f.press(i);
        }
        is(f.recent(0), 11);
        is(f.recent(11), 0);
        no(f, f.recent(12), 6);
        f.lift(5);
        f.press(5);
        is(f.recent(0), 5);
        is(f.recent(7), 5);
        is(f.recent(11), 1);

        at(24);
        is(f.sift(), 5);
        is(f.sift(), 0);
        is(f.told(11), 7);

        at(27);
        is(f.soundAt(0), 0);
        is(f.soundAt(3), 6);
        is(f.soundAt(6), 11);
        no(f, f.soundAt(7), 6);
        no(f, f.soundAt(-1), 6);

        at(25);
        is(f.glide(7), 6);
        is(f.soundAt(0), 1);
        is(f.glide(0), 6);
        // One lower: 0 1 3 5 6 8 10, of which 0 and 6 are of DEGREES.
        is(f.glide(59), 2);
        is(f.soundAt(0), 0);
        is(f.soundAt(1), 1);
        is(f.recent(0), 5);
        no(f, f.glide(60), 1);
        no(f, f.glide(-1), 1);

        at(47);
        is(f.fit(), 2);
        is(new ScaleForge().fit(), 0);
    }

    private static void modes() {
        at(29);
        ScaleForge f = of("length 4;");
        is(f.variety(1), 3);
        is(f.variety(2), 2);
        is(f.variety(4), 1);
        is(f.variety(24), 1);
        is(f.variety(23), 3);
        no(f, f.variety(0), 1);
        no(f, f.variety(25), 1);

        at(30);
        is(f.myhill(), 0);
        is(of("length 5;").myhill(), 1);
        is(of("length 12;").myhill(), 0);
        is(of("length 1;").myhill(), 0);
        is(of("length 2;").myhill(), 1);
        is(of("length 2;generator 6;").myhill(), 0);

        at(31);
        is(of("generator 0;").lengths(), 0);
        is(of("generator 6;").lengths(), 1);
        is(of("period 60;generator 1;length 3;").lengths(), 23);

        at(32);
        f = of("period 31;generator 18;");
        int[] due = {2, 3, 5, 7, 12, 19, 20, 21, 22, 23, 24};
        is(f.lengths(), 11);
        for (int k = 0; k < due.length; k++) {
            is(f.lengthAt(k), due[k]);
        }
        no(f, f.lengthAt(11), 6);
        no(f, f.lengthAt(-1), 6);
        f = of("generator 0;");
        no(f, f.lengthAt(0), 6);

        at(33);
        is(of("length 12;").modes(), 1);
        is(of("length 1;").modes(), 1);
        is(of("generator 6;length 2;").modes(), 1);
        is(of("length 4;").modes(), 4);
        // 8 by 3 of 4: 0 3 6 1, steps 1 2 3 2; 12 by 3 of 9: all steps 3.
        is(of("period 8;generator 3;length 4;").modes(), 4);
        is(of("generator 3;length 9;").modes(), 1);

        at(34);
        f = of("generator 3;length 9;");
        is(f.alike(0, 3), 1);
        no(f, f.alike(4, 0), 1);
        no(f, f.alike(0, -1), 1);
        is(of("").alike(0, 6), 0);

        at(35);
        is(f.brightness(2), 18);
        no(f, f.brightness(4), 1);
        no(f, f.brightness(-1), 1);
        is(of("length 1;").brightness(0), 0);
        is(of("length 4;").brightness(2), 2 + 5 + 7);

        at(36);
        // 0 2 7 9: 18, 5 + 7 + 10, 2 + 5 + 7, 3 + 5 + 10.
        f = of("length 4;");
        is(f.modeBy(0), 2);
        is(f.modeBy(1), 0);
        is(f.modeBy(2), 3);
        is(f.modeBy(3), 1);
        no(f, f.modeBy(4), 6);
        no(f, f.modeBy(-1), 6);
        is(of("length 12;").modeBy(7), 7);
    }

    private static void names() {
        at(37);
        ScaleForge f = of("nominals 5;down 1;root 3;");
        is(f.nominal(-60), 0);
        is(f.nominal(-58), 2);
        is(f.nominal(60), 0);
        no(f, f.nominal(61), 1);
        no(f, f.nominal(-61), 1);

        at(38);
        is(f.sharps(-60), -12);
        is(f.sharps(-58), -12);
        is(f.sharps(59), 11);
        is(f.sharps(-1), -1);
        is(f.status(), 0);
        no(f, f.sharps(61), 1);
        no(f, f.sharps(-61), 1);

        at(39);
        is(f.named(1, 0), 3);
        is(f.named(4, 9), (3 + 48 * 7) % 12);
        is(f.named(0, -9), Math.floorMod(3 - 46 * 7, 12));
        no(f, f.named(5, 0), 1);
        no(f, f.named(-1, 0), 1);
        no(f, f.named(0, 10), 1);
        no(f, f.named(0, -10), 1);

        at(40);
        is(f.simplest(3, 2), 1);
        is(f.simplest(3, 1), 0);
        is(f.simplest(3, 0), 1);
        f = of("nominals 1;");
        is(f.simplest(6, 2), -6);
        is(f.simplest(6, 1), -6);
        is(f.simplest(6, 0), 0);
        f = of("generator 6;");
        is(f.simplest(6, 2), 1);
        no(f, f.simplest(1, 0), 6);
        no(f, f.simplest(12, 0), 1);
        no(f, f.simplest(-1, 0), 1);
        no(f, f.simplest(1, 3), 1);
        no(f, f.simplest(1, -1), 1);

        at(41);
        is(f.names(0), 61);
        is(f.names(6), 60);
        is(f.names(1), 0);
        no(f, f.names(12), 1);
        no(f, f.names(-1), 1);
        is(of("generator 0;root 4;").names(4), 121);
    }

    private static void keys() {
        at(42);
        ScaleForge f = of("period 31;right 5;up 3;root 9;");
        is(f.keyTone(0, 0), 0);
        is(f.keyTone(11, 5), (55 + 15) % 31);
        no(f, f.keyTone(12, 0), 1);
        no(f, f.keyTone(0, 6), 1);
        no(f, f.keyTone(-1, 0), 1);
        no(f, f.keyTone(0, -1), 1);

        at(43);
        f = of("right 6;up 0;");
        is(f.keys(0), 36);
        is(f.keys(1), 0);
        no(f, f.keys(12), 1);
        no(f, f.keys(-1), 1);

        at(44);
        no(f, f.keyOf(1, 0), 6);
        is(f.keyOf(6, 0), 1);
        is(f.keyOf(6, 1), 0);
        no(f, f.keyOf(1, 2), 1);
        no(f, f.keyOf(1, -1), 1);
        no(f, f.keyOf(12, 0), 1);
        // A 13th to the right, a 7th up: there are none.
        f = of("period 60;right 4;up 0;");
        is(f.keyOf(44, 0), 11);
        no(f, f.keyOf(48, 0), 6);
        f = of("period 60;right 0;up 7;");
        is(f.keyOf(35, 1), 5);
        no(f, f.keyOf(42, 0), 6);
        is(f.keyOf(0, 0), 0);
        is(f.keyOf(0, 1), 0);
        f = of("right 1;up 1;");
        is(f.keyOf(4, 0), 4);
        is(f.keyOf(4, 1), 0);
        f = of("period 60;right 2;up 3;");
        is(f.keyOf(6, 0), 0);
        is(f.keyOf(6, 1), 2);
        f = of("period 60;right 11;up 1;");
        is(f.keyOf(5, 0), 0);
        is(f.keyOf(5, 1), 5);

        at(45);
        is(f.keyTones(), 60);
        is(of("right 6;up 0;").keyTones(), 2);
        is(of("period 60;right 0;up 7;").keyTones(), 6);
        is(of("period 60;right 4;up 0;").keyTones(), 12);
        is(of("right 0;up 0;").keyTones(), 1);
        is(of("period 60;right 1;up 1;").keyTones(), 17);
    }

    private static void guesses() {
        at(46);
        ScaleForge f = of("period 20;generator 3;length 3;root 18;");
        // 18 1 4: DEGREES 1 4 18.
        is(f.nearest(0), 0);
        is(f.nearest(19), 2);
        is(f.nearest(2), 0);
        is(f.nearest(11), 1);
        is(f.nearest(12), 2);
        is(of("").nearest(7), 4);
        is(of("length 2;generator 4;").nearest(2), 0);
        is(of("length 2;generator 4;").nearest(8), 1);
        no(f, f.nearest(20), 1);
        no(f, f.nearest(-1), 1);

        at(48);
        f = of("down 1;sounds 1 3 5 6 8 10 11;");
        is(f.fit(), 2);
        is(f.bestRoot(), 6);
        is(of("sounds 6;").bestRoot(), 0);
        is(of("length 1;sounds 6;").bestRoot(), 6);

        at(49);
        f = of("length 2;sounds 3 7;");
        is(f.guesses(), 2);
        is(of("length 1;sounds 3 7;").guesses(), 0);

        at(50);
        is(f.guessAt(0), 4);
        is(f.guessAt(1), 8);
        no(f, f.guessAt(2), 6);
        no(f, f.guessAt(-1), 6);

        at(51);
        // By 4 and 8 nothing more stays; all are alike, the least does not sound.
        is(f.ask(), 0);
        f = of("length 1;sounds 3 7;");
        no(f, f.ask(), 6);
        f = of("period 3;length 3;sounds 0 1 2;");
        is(f.guesses(), 2);
        no(f, f.ask(), 6);
        f = of("length 2;sounds 0 6;");
        is(f.guesses(), 1);
        is(f.guessAt(0), 6);
        no(f, f.ask(), 6);
        // Nothing sounds, two TONES: all but 0 reach all, 0 reaches all, too, by some ROOT.
        is(of("length 2;").ask(), 0);
        // 5 by 2 TONES, 0 sounds: 1 and 4 reach 1 and 4, 2 and 3 reach 2 and 3, 0 reaches 0 alone.
        f = of("period 5;length 2;sounds 0;");
        is(f.guesses(), 5);
        is(f.ask(), 1);

        at(52);
        f = of("root 3;");
        is(f.common(3), 7);
        is(f.common(10), 6);
        is(f.common(9), 2);
        no(f, f.common(12), 1);
        no(f, f.common(-1), 1);
        is(of("generator 0;").common(1), 0);
    }

    private static void ways() {
        at(53);
        is(of("").way(), 0);
        is(of("sounds 5;").way(), 0);
        is(of("sounds 1 11;").way(), 2);
        // From 0: 11 first and back over 0 to 3, 4 is 1 and 4 and 1; 3 4 11 is 3 and 1 and 5.
        ScaleForge f = of("sounds 0 3 4 11;");
        is(f.way(), 6);
        at(54);
        is(f.wayAt(0), 0);
        is(f.wayAt(1), 11);
        is(f.wayAt(2), 3);
        is(f.wayAt(3), 4);
        no(f, f.wayAt(4), 6);
        no(f, f.wayAt(-1), 6);
        // Round either way is as far: the first by TONES.
        f = of("sounds 0 3 6 9;");
        is(f.way(), 9);
        is(f.wayAt(1), 3);
        is(f.wayAt(3), 9);
        f = of("sounds 5;");
        is(f.wayAt(0), 5);
        no(f, f.wayAt(1), 6);
        f = of("");
        no(f, f.wayAt(0), 6);
        f = of("sounds 0 1 2 3 4 5 6;");
        is(f.way(), 6);
        is(f.wayAt(6), 6);
        f.press(7);
        no(f, f.way(), 7);
        no(f, f.wayAt(0), 7);
        no(f, f.wayAt(-1), 7);

        at(55);
        f = of("length 3;");
        // 0 2 7.
        is(f.shapes(1), 1);
        is(f.shapes(2), 3);
        is(f.shapes(3), 1);
        no(f, f.shapes(0), 1);
        no(f, f.shapes(4), 1);
        f = of("length 2;");
        is(f.shapes(2), 1);
        is(f.shapes(3), 0);
        f = of("length 1;");
        is(f.shapes(1), 1);
        is(f.shapes(2), 0);
        // 0 3 6 9: 3 6, 3 9, 6 9; none is folded.
        f = of("generator 3;length 4;");
        is(f.shapes(2), 3);
        is(f.shapes(3), 3);
    }

    private static void fractions() {
        at(56);
        is(of("generator 0;").convergents(), 1);
        is(of("generator 1;").convergents(), 2);
        is(of("generator 6;").convergents(), 2);
        is(of("generator 11;").convergents(), 3);
        is(of("period 55;generator 34;").convergents(), 9);

        at(57);
        ScaleForge f = of("period 31;generator 18;");
        // 31 by 18: 1, 18 by 13: 1, 13 by 5: 2, 5 by 3: 1, 3 by 2: 1, 2.
        int[][] due = {{0, 1}, {1, 1}, {1, 2}, {3, 5}, {4, 7}, {7, 12}, {18, 31}};
        for (int k = 0; k < due.length; k++) {
            fraction(f, f.convergent(k), due[k][0], due[k][1]);
        }
        no(f, f.convergent(7), 6);
        no(f, f.convergent(-1), 6);
        is(f.top(), 18);
        f = of("generator 8;");
        fraction(f, f.convergent(2), 2, 3);
        no(f, f.convergent(3), 6);
        f = of("generator 0;");
        fraction(f, f.convergent(0), 0, 1);

        at(58);
        f = of("length 4;");
        fraction(f, f.ratio(), 5, 2);
        f = of("length 12;");
        fraction(f, f.ratio(), 1, 1);
        f = of("length 1;");
        fraction(f, f.ratio(), 1, 1);
        f = of("generator 4;length 2;");
        fraction(f, f.ratio(), 2, 1);

        at(59);
        f = of("length 4;");
        fraction(f, f.share(0), 1, 2);
        fraction(f, f.share(1), 1, 4);
        fraction(f, f.share(2), 1, 4);
        no(f, f.share(3), 6);
        no(f, f.share(-1), 6);
        f = of("length 1;");
        fraction(f, f.share(0), 1, 1);

        at(60);
        f = of("odds 3;");
        fraction(f, f.mistuned(12, 12), 531441, 1L << 48);
        fraction(f, f.mistuned(12, 0), 1, 1);
        fraction(f, f.mistuned(3, 2), (3 * 9 * 13 + 27) / 2, 4096 / 2);
        fraction(f, f.mistuned(3, 4), 0, 1);
        fraction(f, f.mistuned(0, 0), 1, 1);
        no(f, f.mistuned(13, 0), 1);
        no(f, f.mistuned(0, 13), 1);
        no(f, f.mistuned(-1, 0), 1);
        no(f, f.mistuned(0, -1), 1);
        f = of("odds 0;");
        fraction(f, f.mistuned(12, 1), 0, 1);
        fraction(f, f.mistuned(12, 0), 1, 1);
        f = of("odds 16;");
        fraction(f, f.mistuned(12, 12), 1, 1);
    }

    private static void trayScales() {
        at(61);
        ScaleForge f = of("period 60;generator 7;length 24;root 50;");
        no(f, f.copyScale(-1), 1);
        no(f, f.copyScale(4), 1);
        no(f, f.copyScale(0), 2);
        f.tray(0, 3, 23);
        no(f, f.copyScale(0), 3);
        is(f.read(0, 0), 0);
        f.tray(0, 0, 25);
        f.write(0, 24, 99);
        f.write(0, 0, 99);
        is(f.copyScale(0), 24);
        for (int d = 0; d < 24; d++) {
            is(f.read(0, d), f.tone(d));
        }
        is(f.read(0, 24), 99);

        at(62);
        is(f.steps(0, 24), 23);
        is(f.steps(0, 0), 0);
        is(f.steps(0, 1), 0);
        no(f, f.steps(0, 25), 5);
        no(f, f.steps(0, 26), 3);
        no(f, f.steps(0, 61), 1);
        no(f, f.steps(0, -1), 1);
        no(f, f.steps(4, 1), 1);
        no(f, f.steps(1, 0), 2);
        no(f, f.steps(1, 61), 1);
        f.write(0, 3, -1);
        no(f, f.steps(0, 4), 5);
        is(f.steps(0, 3), 2);
        f.tray(2, 2, 60);
        is(f.steps(2, 60), 0);
        f.rule(1, 12);
        f.write(2, 7, 12);
        is(f.steps(2, 7), 0);
        no(f, f.steps(2, 8), 5);
        f.tray(1, 3, 3);
        f.write(1, 0, 1L << 32);
        no(f, f.steps(1, 3), 5);
        // Round: the last DEGREE and the first one; a TONE that stays is none.
        f = of("");
        f.tray(0, 0, 4);
        f.write(0, 0, 11);
        f.write(0, 2, 11);
        f.write(0, 3, 11);
        is(f.steps(0, 4), 2);
        f = of("length 1;");
        f.tray(0, 0, 4);
        f.write(0, 3, 5);
        is(f.steps(0, 4), 2);
        f = of("length 2;");
        f.tray(0, 0, 4);
        f.write(0, 1, 7);
        f.write(0, 2, 7);
        is(f.steps(0, 4), 2);
    }

    private static void lives() {
        at(63);
        ScaleForge f = of("sounds 4;", "press 1;press 1;lift 4;lift 4;root 5;root 5;press 12;lift 12;root 12;hold 12;any;end;");
        no(f, f.live(-1), 1);
        no(f, f.live(10000), 1);
        no(f, f.lived(0), 6);
        is(f.live(9999), 10);
        is(f.told(5), 5);
        is(f.told(11), 1);
        is(f.recent(0), 1);
        no(f, f.recent(1), 6);

        at(64);
        is(f.lived(0), 7);
        is(f.lived(1), 1);
        is(f.lived(2), 1);
        is(f.lived(3), 0);
        is(f.lived(4), 0);
        no(f, f.lived(5), 1);
        no(f, f.lived(-1), 1);
        no(f, f.live(10000), 1);
        is(f.lived(0), 7);
        no(f, f.logAt(0), 6);

        at(63);
        anys();
        tests();
        // STUDIES without a STEP are there.
        f = of("sounds 1;", " ");
        is(f.live(3), 0);
        is(f.lived(0), 0);
    }

    private static void anys() {
        // 0: 11527, by 8 1440, by 12 0; then 23762 of 65536 and so on.
        int s = 0;
        boolean[] sounds = new boolean[12];
        int missed = 0;
        int pressed = 0;
        int lifted = 0;
        for (int i = 0; i < 40; i++) {
            s = (s * 3293 + 11527) % 65536;
            int tone = s / 8 % 12;
            s = (s * 3293 + 11527) % 65536;
            boolean lifts = s / 8 % 16 < 5;
            if (lifts != sounds[tone]) {
                missed++;
            } else if (lifts) {
                lifted++;
                sounds[tone] = false;
            } else {
                pressed++;
                sounds[tone] = true;
            }
        }
        ScaleForge f = of("odds 5;", "loop 40;any;end;");
        is(f.live(0), 41);
        is(f.lived(0), missed);
        is(f.lived(1), pressed);
        is(f.lived(2), lifted);
        int many = 0;
        for (int t = 0; t < 12; t++) {
            if (sounds[t]) {
                is(f.soundAt(many), t);
                many++;
            }
        }
        is(f.told(11), many);
    }

    private static void tests() {
        ScaleForge f = of("sounds 1;", "when sounds 1;press 2;end;when sounds 0;press 3;end;when sounds 59;press 3;end;"
            + "when degree 4;press 4;end;when degree 1;press 3;end;when degree 59;press 3;end;");
        is(f.live(0), 8);
        is(f.told(11), 3);
        is(f.lived(0), 0);
        // FIT is 2 by 2 and 4.
        is(studies(f, "when fit<3;press 5;end;when fit<2;press 8;end;when fit>1;press 3;end;when fit>2;press 8;end;"
            + "when fit=2;press 10;end;when fit=3;press 8;end;"), 12);
        is(f.live(0), 9);
        is(f.told(11), 6);
        is(f.lived(1), 3);
        // By a ROOT the DEGREES are others: 12 by 7 from 1 has 1 8 3 10 5 0 7.
        f = of("", "root 1;when degree 1;press 1;end;when degree 2;press 2;end;");
        is(f.live(0), 4);
        is(f.told(11), 1);
    }

    private static void lifeEnds() {
        at(65);
        ScaleForge f = of("", "hold 1;hold 2;press 3;end;lift 1;end;press 1;");
        is(f.live(0), 5);
        is(f.logAt(0), 2);
        is(f.logAt(1), 1);
        no(f, f.logAt(2), 6);
        no(f, f.logAt(-1), 6);
        is(f.lived(3), 2);
        is(f.lived(2), 1);
        is(f.lived(1), 4);
        is(f.told(11), 2);
        is(f.recent(0), 1);
        is(f.recent(1), 3);
        is(f.recent(2), 2);

        // leave ends the innermost hold alone, and the loop within it.
        f = of("", "hold 1;hold 2;loop 9;press 3;leave;end;press 4;end;press 5;end;press 6;");
        is(f.live(0), 7);
        is(f.logAt(0), 2);
        is(f.logAt(1), 1);
        is(f.told(11), 3);
        is(f.soundAt(0), 3);
        is(f.soundAt(1), 5);
        is(f.soundAt(2), 6);
        // Without a hold it ends all.
        f = of("", "loop 3;press 1;when fit=0;leave;end;end;press 2;");
        is(f.live(0), 4);
        is(f.told(11), 1);
        no(f, f.logAt(0), 6);
        // A hold in a loop: leave ends this round's hold.
        f = of("", "loop 3;hold 1;leave;end;end;press 2;");
        is(f.live(0), 8);
        is(f.lived(3), 3);
        is(f.told(11), 1);
        // stop ends all, the latest hold is let go first.
        f = of("", "hold 1;hold 2;loop 5;lift 2;stop;end;end;end;press 3;");
        is(f.live(0), 5);
        is(f.logAt(0), 2);
        is(f.logAt(1), 1);
        is(f.told(11), 0);
        is(f.lived(0), 0);
        // A hold of what sounds is MISSED, what is within it is not done.
        f = of("sounds 1;", "hold 1;press 2;end;press 3;");
        is(f.live(0), 2);
        is(f.lived(0), 1);
        is(f.lived(3), 0);
        is(f.told(11), 2);

        at(64);
        // 1 and 99 each, three times: 300 and no more.
        f = of("", "loop 99;any;end;loop 99;any;end;loop 98;any;end;any;");
        is(f.live(7), 300);
        is(f.lived(4), 0);
        f = of("", "loop 99;any;end;loop 99;any;end;loop 99;any;end;any;");
        is(f.live(7), 300);
        is(f.lived(4), 1);
        // The end of a loop and of a hold are come to behind the 300th.
        f = of("", "loop 99;any;end;loop 99;any;end;loop 98;any;end;hold 1;end;");
        f.rule(0, 16);
        is(f.live(7), 300);
        is(f.lived(4), 0);
        is(f.lived(3), 1);
        // Cut short within two holds: both are let go.
        f = of("", "hold 1;hold 2;loop 99;lift 3;lift 3;lift 3;lift 3;end;end;end;");
        is(f.live(0), 300);
        is(f.lived(4), 1);
        is(f.logAt(0), 2);
        is(f.logAt(1), 1);
        is(f.lived(0), 297);
        is(f.told(11), 0);

        at(65);
        f = of("", "loop 61;hold 5;end;end;loop 9;hold 6;end;end;");
        is(f.live(0), 72);
        is(f.lived(3), 70);
        is(f.logAt(59), 5);
        no(f, f.logAt(60), 6);
        no(f, f.live(-1), 1);
        is(f.logAt(0), 5);
    }

    private static void means() {
        at(66);
        ScaleForge f = new ScaleForge();
        no(f, f.mean(0, 1), 6);
        no(f, f.mean(-1, 1), 1);
        no(f, f.mean(0, 0), 1);
        no(f, f.mean(0, 21), 1);
        no(f, f.mean(10000, 1), 1);
        no(f, f.mean(9999, 2), 1);
        f = of("odds 6;sounds 0 1 2 3;", "loop 9;any;end;root 5;hold 5;end;");
        fraction(f, f.mean(9999, 1), after(9999), 1);
        int together = 0;
        for (int seed = 100; seed < 120; seed++) {
            together += after(seed);
        }
        is(f.mean(100, 20), true);
        is(f.top() * 20, f.bottom() * together);
        is(f.told(11), 4);
        is(f.told(5), 0);
        no(f, f.recent(0), 6);
        no(f, f.lived(0), 6);
        no(f, f.logAt(0), 6);
    }

    private static int after(int seed) {
        ScaleForge f = of("odds 6;sounds 0 1 2 3;", "loop 9;any;end;root 5;hold 5;end;");
        f.live(seed);
        return f.told(11);
    }

    private static void marks() {
        at(67);
        ScaleForge f = of("period 20;sounds 3;", "press 4;");
        f.press(9);
        is(f.mark(), 1);
        f.rule(1, 5);
        f.live(1);
        is(f.mark(), 2);
        is(scale(f, "period 7;"), 1);
        is(f.mark(), 3);
        no(f, f.mark(), 4);

        at(68);
        f.press(1);
        f.tray(0, 0, 1);
        is(f.undo(), 2);
        is(f.told(11), 0);
        no(f, f.recent(0), 6);
        no(f, f.live(1), 6);
        is(f.read(0, 0), 0);
        is(f.undo(), 1);
        is(f.told(1), 5);
        is(f.told(11), 2);
        is(f.recent(0), 4);
        is(f.recent(1), 9);
        is(f.live(1), 1);
        is(f.lived(0), 1);
        is(f.undo(), 0);
        is(f.told(1), 20);
        is(f.told(11), 2);
        is(f.soundAt(1), 9);
        is(f.recent(0), 9);
        no(f, f.recent(1), 6);
        is(f.lived(0), 1);
        no(f, f.undo(), 6);
        is(f.mark(), 1);
    }
}
