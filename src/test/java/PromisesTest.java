/** Each promise of the document by itself: ordinary inputs, the edges it names, wrong inputs. */
public final class PromisesTest {
    private static final int BAD = TurnVoice.BAD;
    private static final int STATE = TurnVoice.STATE;
    private static final int FULL = TurnVoice.FULL;
    private static final int NONE = TurnVoice.NONE;
    private static final int NO = TurnVoice.NO;
    private static final int LEAST = Integer.MIN_VALUE;
    private static final int MOST = Integer.MAX_VALUE;

    private static final String SQUARE = Towns.SQUARE;
    private static final String LOOP = Towns.LOOP;
    private static final Due due = new Due();

    public static void main(String[] args) {
        newObject();
        type();
        clear();
        town();
        townFaults();
        townAnew();
        road();
        place();
        now();
        takes();
        jams();
        shuts();
        undo();
        way();
        wayOfSeveral();
        round();
        on();
        worst();
        plans();
        drops();
        his();
        cars();
        tunnel();
        saw();
        forget();
        where();
        which();
        odds();
        rate();
        keep();
        back();
        count();
        trace();
        due.end();
    }

    private static void wayIs(String what, TurnVoice x, int minutes, int turns, int... roads) {
        due.is("way(-1) " + what, x.way(-1), minutes);
        due.is("way(-2) " + what, x.way(-2), turns);
        for (int k = 0; k < roads.length; k++) {
            due.is("way(" + k + ") " + what, x.way(k), roads[k]);
        }
        due.is("way(" + roads.length + ") " + what, x.way(roads.length), -5);
        due.is("way(most) " + what, x.way(MOST), -5);
    }

    private static void nowIs(String what, TurnVoice x, int... want) {
        for (int i = 0; i < want.length; i++) {
            due.is("now(" + i + ") " + what, x.now(i), want[i]);
        }
    }

    private static void countsAre(String what, TurnVoice x, int... want) {
        for (int i = 0; i < want.length; i++) {
            due.is("count(" + i + ") " + what, x.count(i), want[i]);
        }
    }

    /** 1 */
    private static void newObject() {
        TurnVoice x = new TurnVoice();
        countsAre("of a new object", x, 2, 0, 0, 1, 2, 1, 0, 0, 0);
        nowIs("of a new object", x, 0, NONE, 0, 0, 0, 0);
        due.is("trace() of a new object", x.trace(), 0);
        due.is("place(0) of a new object", x.place(0), 0);
        due.is("road(0, 0) of a new object", x.road(0, 0), BAD);
        due.is("back(0) of a new object", x.back(0), STATE);
    }

    /** 2 */
    private static void type() {
        TurnVoice x = new TurnVoice();
        due.is("type(0)", x.type(0), 1);
        due.is("type(255)", x.type(255), 2);
        due.is("type(-1)", x.type(-1), BAD);
        due.is("type(256)", x.type(256), BAD);
        due.is("type(least)", x.type(LEAST), BAD);
        for (int i = 3; i <= 200; i++) {
            due.is("type(32) the " + i + "th", x.type(32), i);
        }
        due.is("type behind 200", x.type(32), FULL);
        due.is("bad ahead of full", x.type(256), BAD);
        due.is("count(8) when full", x.count(8), 200);
    }

    /** 3 */
    private static void clear() {
        TurnVoice x = Towns.typed("p3;");
        due.is("clear()", x.clear(), 3);
        due.is("clear() again", x.clear(), 0);
        due.is("type behind clear", x.type('p'), 1);
        for (int i = 0; i < 250; i++) {
            x.type('x');
        }
        due.is("clear() when full", x.clear(), 200);
    }

    /** 4 */
    private static void town() {
        due.is("town() of nothing", new TurnVoice().town(), 0);
        due.is("town() of blanks", Towns.typed("   ").town(), 0);
        due.is("town() without p", Towns.typed("r0 1 60;r1 0 1;s0 1;s1 0;s0 1;").town(), 5);
        due.is("town() with blanks", Towns.typed("  p 8 ;g 7   7;  n20;l 0;  ").town(), 4);
        due.is("g where begin is goal", Towns.typed("g1 1;").town(), 1);
        due.is("twelve roads", Towns.typed("r0 1 1;".repeat(12)).town(), 12);
        due.is("straight roads that never meet", Towns.typed("p4;r0 1 1;r2 3 1;s0 1;").town(), 4);
        TurnVoice x = Towns.told(SQUARE);
        countsAre("as told", x, 5, 6, 0, 4, 3, 2, 0, 0, 0);
        TurnVoice y = Towns.told("g1 0;l9;n0;r0 1 1;");
        countsAre("as told in another order", y, 2, 1, 1, 0, 0, 9, 0, 0, 0);
        due.is("now(0) at the told begin", y.now(0), 1);
    }

    private static void faultIs(String text, int place) {
        TurnVoice x = Towns.typed(text);
        due.is("town() of '" + text + "'", x.town(), -10 - place);
        countsAre("behind the fault of '" + text + "'", x, 2, 0, 0, 1, 2, 1, 0, 0, text.length());
    }

    private static void townFaults() {
        faultIs("x", 0);
        faultIs("  \t", 2);
        faultIs(";", 0);
        faultIs("5", 0);
        faultIs("p", 1);
        faultIs("p3", 2);
        faultIs("p3   ", 5);
        faultIs("p3;r0 2", 7);
        faultIs("p1;", 1);
        faultIs("p9;", 1);
        faultIs("p 08;", 2);
        faultIs("p00;", 1);
        faultIs("p3;p3;", 3);
        faultIs("n1;p3;", 3);
        faultIs("p3 3;", 3);
        faultIs("p;", 1);
        faultIs("pp3;", 1);
        faultIs("p3x;", 2);
        faultIs("r0 2 1;", 3);
        faultIs("r2 0 1;", 1);
        faultIs("r1 1 1;", 3);
        faultIs("r0 1 0;", 5);
        faultIs("r0 1 61;", 5);
        faultIs("r0 1 100;", 5);
        faultIs("r0 1 4294967297;", 5);
        faultIs("r0 1 01;", 5);
        faultIs("r0 1 1 1;", 7);
        faultIs("r0 1 1;".repeat(13), 84);
        faultIs("s0 1;", 1);
        faultIs("r0 1 1;s0 1;", 10);
        faultIs("r0 1 1;r0 1 1;s1 1;", 17);
        faultIs("r0 1 1;s0 1;r0 1 1;", 10);
        faultIs("g0 2;", 3);
        faultIs("g2 0;", 1);
        faultIs("g0 1;g0 1;", 5);
        faultIs("g0;", 2);
        faultIs("n21;", 1);
        faultIs("n1;n1;", 3);
        faultIs("l10;", 1);
        faultIs("l1;l1;", 3);
        faultIs("l1;n5;l1", 6);
        faultIs("r;", 1);
        faultIs("r0;", 2);
        faultIs("r0 1;", 4);
        faultIs("s;", 1);
        faultIs("r0 1 1;s0;", 9);
        faultIs("g;", 1);
        faultIs("n;", 1);
        faultIs("l;", 1);
        faultIs("P3;", 0);
        faultIs("n1;" + (char) 233, 3);
        faultIs(" ".repeat(199) + "p", 200);
    }

    private static void townAnew() {
        TurnVoice x = Towns.told(SQUARE);
        x.takes(0);
        x.jams(1, 7);
        x.shuts(2, 1);
        x.plans(0);
        x.saw(1, 1);
        x.keep(0);
        x.rate(0, 0);
        Towns.add(x, "p5;q");
        due.is("town() with a fault", x.town(), -13);
        countsAre("behind a fault", x, 5, 6, 0, 4, 3, 2, 1, 1, 4);
        nowIs("behind a fault", x, 1, 0, 8, 0, 4, 3);
        due.is("JAM behind a fault", x.road(1, 3), 7);
        due.is("image behind a fault", x.back(0), 8);
        x.jams(0, 1);
        x.clear();
        Towns.add(x, "p3;r0 1 5;r1 2 7;r0 2 9;");
        due.is("town() anew", x.town(), 4);
        countsAre("anew", x, 3, 3, 0, 1, 2, 1, 0, 0, 0);
        nowIs("anew", x, 0, NONE, 0, 0, 0, 0);
        due.is("JAM anew", x.road(1, 3), 0);
        due.is("STRAIGHT anew", x.road(0, 5), 0);
        due.is("undo() anew", x.undo(), STATE);
        due.is("back(0) anew", x.back(0), STATE);
        due.is("TRACE anew stays", x.trace(), 1);
        due.is("town() of no text", x.town(), 0);
        countsAre("anew, of no text", x, 2, 0, 0, 1, 2, 1, 0, 0, 0);
        townOftenAnew();
    }

    private static void townOftenAnew() {
        TurnVoice x = new TurnVoice();
        for (int i = 0; i < 4; i++) {
            Towns.add(x, "p3;r0 1 5;r1 2 7;s0 1;g1 2;n9;l9;");
            due.is("town() of seven", x.town(), 7);
            due.is("BEGIN as told", x.now(0), 1);
            due.is("a TURN", x.takes(1) + x.takes(1), 7 + 16);
            x.jams(0, 3);
            Towns.add(x, "r0 1 5;r0 1 7;");
            due.is("town() of two", x.town(), 2);
            countsAre("anew, not told", x, 2, 2, 0, 1, 2, 1, 0, 0, 0);
            nowIs("anew, not told", x, 0, NONE, 0, 0, 0, 0);
            due.is("JAM anew", x.road(0, 3), 0);
            due.is("STRAIGHT anew", x.road(0, 5), 0);
            // a third text, so that one of any two rooms that texts are read into gets unlike ones in turn
            due.is("town() of none", x.town(), 0);
        }
    }

    /** 5 */
    private static void road() {
        TurnVoice x = Towns.told("p3;r2 0 60;r0 1 5;r1 2 7;s0 1;s2 0;");
        int[] want = {2, 0, 60, 0, 0, 6};
        for (int what = 0; what < 6; what++) {
            due.is("road(0, " + what + ")", x.road(0, what), want[what]);
        }
        due.is("road(1, 5)", x.road(1, 5), 1);
        due.is("road(2, 5)", x.road(2, 5), 1);
        x.jams(0, 60);
        x.shuts(0, 1);
        due.is("LONG with a JAM", x.road(0, 2), 120);
        due.is("JAM", x.road(0, 3), 60);
        due.is("SHUT", x.road(0, 4), 1);
        due.is("road(3, 0)", x.road(3, 0), BAD);
        due.is("road(-1, 0)", x.road(-1, 0), BAD);
        due.is("road(most, 0)", x.road(MOST, 0), BAD);
        due.is("road(0, 6)", x.road(0, 6), BAD);
        due.is("road(0, -1)", x.road(0, -1), BAD);
    }

    /** 6 */
    private static void place() {
        TurnVoice x = Towns.told(SQUARE);
        due.is("place(0)", x.place(0), 5);
        due.is("place(1)", x.place(1), 35);
        due.is("place(4)", x.place(4), 18);
        x.shuts(0, 1);
        due.is("place(0), one SHUT", x.place(0), 4);
        due.is("place(1), one SHUT", x.place(1), 34);
        due.is("place(5)", x.place(5), BAD);
        due.is("place(-1)", x.place(-1), BAD);
        due.is("place(least)", x.place(LEAST), BAD);
    }

    /** 7 */
    private static void now() {
        TurnVoice x = Towns.told(SQUARE);
        nowIs("at first", x, 0, NONE, 0, 0, 0, 0);
        x.takes(2);
        x.takes(2);
        x.shuts(5, 1);
        x.shuts(0, 1);
        nowIs("behind four", x, 0, 2, 13, 1, 33, 4);
        due.is("now(6)", x.now(6), BAD);
        due.is("now(-1)", x.now(-1), BAD);
    }

    /** 8 */
    private static void takes() {
        TurnVoice x = Towns.told(SQUARE);
        due.is("the first is no TURN", x.takes(0), 8);
        due.is("STRAIGHT is no TURN", x.takes(1), 9);
        due.is("another is a TURN", x.takes(4), 9);
        due.is("back is a TURN", x.takes(4), 9);
        nowIs("behind four", x, 4, 4, 35, 2, 0, 4);
        due.is("not where HE is", x.takes(0), STATE);
        x.shuts(1, 1);
        due.is("SHUT", x.takes(1), STATE);
        due.is("takes(6)", x.takes(6), BAD);
        due.is("takes(-1)", x.takes(-1), BAD);
        x.shuts(1, 0);
        x.jams(1, 60);
        due.is("with a JAM", x.takes(1), 72);
        nowIs("behind refusals", x, 1, 1, 107, 3, 0, 8);
        takesTo9999();
    }

    private static void takesTo9999() {
        TurnVoice x = Towns.told("r0 1 60;r0 1 1;n0;");
        x.jams(0, 60);
        for (int i = 0; i < 83; i++) {
            due.is("takes(0) the " + i + "th", x.takes(0), 120);
        }
        due.is("minutes", x.now(2), 9960);
        due.is("above 9999", x.takes(0), STATE);
        x.jams(0, 0);
        due.is("10020", x.takes(0), STATE);
        x.jams(1, 38);
        due.is("9999 is not above 9999", x.takes(1), 39);
        x.jams(1, 0);
        due.is("10000", x.takes(1), STATE);
        nowIs("at 9999", x, 0, 1, 9999, 83);
    }

    /** 9 */
    private static void jams() {
        TurnVoice x = Towns.told(SQUARE);
        due.is("jams(1, 60)", x.jams(1, 60), 0);
        due.is("jams(1, 12)", x.jams(1, 12), 60);
        due.is("jams(1, 12) again", x.jams(1, 12), 12);
        due.is("jams(1, 61)", x.jams(1, 61), BAD);
        due.is("jams(1, -1)", x.jams(1, -1), BAD);
        due.is("jams(6, 0)", x.jams(6, 0), BAD);
        due.is("jams(-1, 0)", x.jams(-1, 0), BAD);
        due.is("LONG", x.road(1, 2), 21);
        due.is("LONG of another", x.road(0, 2), 8);
        due.is("how many may be UNDONE", x.now(5), 3);
        due.is("jams(1, 0)", x.jams(1, 0), 12);
    }

    /** 10 */
    private static void shuts() {
        TurnVoice x = Towns.told(SQUARE);
        due.is("it is open", x.shuts(0, 0), STATE);
        due.is("shuts(0, 1)", x.shuts(0, 1), 1);
        due.is("it is shut", x.shuts(0, 1), STATE);
        due.is("shuts(5, 1)", x.shuts(5, 1), 2);
        due.is("shuts(0, 0)", x.shuts(0, 0), 1);
        due.is("shuts(6, 1)", x.shuts(6, 1), BAD);
        due.is("shuts(-1, 1)", x.shuts(-1, 1), BAD);
        due.is("shuts(5, 2)", x.shuts(5, 2), BAD);
        due.is("shuts(5, -1)", x.shuts(5, -1), BAD);
        nowIs("behind three", x, 0, NONE, 0, 0, 32, 3);
    }

    /** 11 */
    private static void undo() {
        TurnVoice x = Towns.told(SQUARE);
        due.is("none", x.undo(), STATE);
        x.takes(0);
        x.takes(0);
        x.jams(3, 9);
        x.jams(3, 8);
        x.shuts(3, 1);
        x.takes(3);
        due.is("undo() of shuts", x.undo(), 4);
        due.is("open again", x.road(3, 4), 0);
        due.is("undo() of jams", x.undo(), 3);
        due.is("JAM again", x.road(3, 3), 9);
        due.is("undo() of jams", x.undo(), 2);
        due.is("no JAM again", x.road(3, 3), 0);
        due.is("undo() of takes", x.undo(), 1);
        nowIs("behind undo()", x, 1, 0, 8, 0, 0, 1);
        due.is("undo() of the first", x.undo(), 0);
        nowIs("behind the last undo()", x, 0, NONE, 0, 0, 0, 0);
        due.is("none left", x.undo(), STATE);
        undoTen();
    }

    private static void undoTen() {
        TurnVoice x = Towns.told(SQUARE);
        for (int n = 1; n <= 23; n++) {
            x.jams(0, n);
        }
        for (int left = 9; left >= 0; left--) {
            due.is("undo() with " + left + " left", x.undo(), left);
            due.is("JAM then", x.road(0, 3), 13 + left);
        }
        due.is("older ones are lost", x.undo(), STATE);
        due.is("jams() behind that", x.jams(0, 1), 13);
        due.is("undo() behind that", x.undo(), 0);
    }

    /** 12 */
    private static void way() {
        TurnVoice x = Towns.told(SQUARE);
        wayIs("as told", x, 17, 0, 0, 1);
        x.jams(1, 12);
        wayIs("with a JAM", x, 18, 1, 2, 3, 4);
        x.takes(2);
        x.takes(3);
        wayIs("as HE came", x, 9, 1, 4);
        due.is("way(-3)", x.way(-3), BAD);
        due.is("way(least)", x.way(LEAST), BAD);
        x.takes(4);
        wayIs("at GOAL", x, 0, 0);
        x.takes(4);
        x.shuts(4, 1);
        x.shuts(1, 1);
        for (int k = -2; k < 3; k++) {
            due.is("no way, way(" + k + ")", x.way(k), NONE);
        }
        due.is("bad ahead of no way", x.way(-3), BAD);
        wayIs("a road twice", Towns.told(LOOP), 6, 0, 0, 2, 3, 4, 2, 1);
        nowIs("nothing is changed", x, 3, 4, 27, 2, 18, 7);
    }

    private static void wayOfSeveral() {
        wayIs("by all of twelve", Towns.told("p8;r0 1 1;r1 2 1;r2 3 1;r3 4 1;r4 5 1;r5 6 1;r6 7 1;r0 7 60;r1 7 60;r2 7 60;r3 7 60;r4 7 60;g0 7;"),
            19, 6, 0, 1, 2, 3, 4, 5, 6);
        wayIs("the last arrival is the best", Towns.told("p4;r0 1 9;r0 2 2;r2 3 2;r3 1 2;n0;"), 6, 2, 1, 2, 3);
        wayIs("of two alike", Towns.told("r0 1 4;r1 0 4;"), 4, 0, 0);
        wayIs("the first road by road", Towns.told("p4;r0 2 1;r0 2 1;r2 1 1;r2 1 1;s1 2;s1 3;s0 3;"), 2, 0, 0, 3);
        wayIs("more roads, but first", Towns.told("p3;r0 2 1;r0 1 2;r2 1 1;n0;"), 2, 1, 0, 2);
        wayIs("by a road told backwards", Towns.told("p3;r1 2 5;r0 2 4;"), 4 + 2 + 5, 1, 1, 0);
        wayIs("turns cost nothing", Towns.told("p3;r0 1 2;r0 2 1;r2 1 1;n0;"), 2, 0, 0);
    }

    /** 13 */
    private static void round() {
        TurnVoice x = Towns.told("p3;r0 1 5;r1 2 3;r0 2 9;g0 2;n4;");
        due.is("came by none", x.round(), 0);
        x.takes(2);
        due.is("at GOAL", x.round(), NONE);
        x.takes(1);
        due.is("to turn round", x.round(), 1);
        x.takes(0);
        due.is("not to turn round", x.round(), 0);
        x.shuts(2, 1);
        due.is("to turn round", x.round(), 1);
        x.shuts(0, 1);
        due.is("no way", x.round(), NONE);
    }

    /** 14 */
    private static void on() {
        TurnVoice x = Towns.told(SQUARE);
        due.is("on(0)", x.on(0), 17);
        due.is("on(2)", x.on(2), 18);
        due.is("on(1) is not there", x.on(1), BAD);
        due.is("on(6)", x.on(6), BAD);
        due.is("on(-1)", x.on(-1), BAD);
        x.takes(0);
        due.is("on(0), back", x.on(0), 3 + 8 + 3 + 8 + 9);
        due.is("on(5)", x.on(5), 14);
        x.shuts(5, 1);
        due.is("on(5), SHUT", x.on(5), BAD);
        x.takes(1);
        due.is("on(4) at GOAL", x.on(4), 18);
        x.takes(1);
        x.shuts(2, 1);
        x.shuts(1, 1);
        due.is("on(0), no way", x.on(0), NONE);
    }

    /** 15 */
    private static void worst() {
        TurnVoice x = Towns.told(SQUARE);
        due.is("worst(0)", x.worst(0), 0);
        due.is("worst(1)", x.worst(1), 18);
        due.is("worst(2)", x.worst(2), BAD);
        due.is("worst(-1)", x.worst(-1), BAD);
        x.takes(2);
        due.is("worst(0) from 2", x.worst(0), 3);
        due.is("worst(1) from 2", x.worst(1), 3 + 5 + 3 + 8 + 9);
        x.shuts(1, 1);
        due.is("worst(0), no way then", x.worst(0), 4);
        due.is("worst(1), no way then", x.worst(1), -5);
        x.shuts(4, 1);
        due.is("worst(0), no WAY now", x.worst(0), NONE);
        due.is("worst(1), no WAY now", x.worst(1), NONE);
        due.is("bad ahead of no WAY", x.worst(2), BAD);
        TurnVoice y = Towns.told("r0 1 5;r0 1 3;g1 1;");
        due.is("worst(0) at GOAL", y.worst(0), 0);
        due.is("worst(1) at GOAL", y.worst(1), 0);
        y.shuts(0, 1);
        due.is("worst(0) of open ones", y.worst(0), 1);
        y.shuts(1, 1);
        due.is("worst(0), none open", y.worst(0), NONE);
        due.is("worst(1), none open", y.worst(1), NONE);
    }

    /** 16 */
    private static void plans() {
        TurnVoice x = Towns.told(SQUARE);
        due.is("plans(6)", x.plans(6), BAD);
        due.is("plans(-1)", x.plans(-1), BAD);
        for (int i = 1; i <= 8; i++) {
            due.is("plans the " + i + "th", x.plans(i % 6), i);
        }
        due.is("plans a ninth", x.plans(0), FULL);
        due.is("bad ahead of full", x.plans(6), BAD);
        due.is("count(6)", x.count(6), 8);
    }

    /** 17 */
    private static void drops() {
        TurnVoice x = Towns.told(SQUARE);
        due.is("drops() of none", x.drops(), 0);
        x.plans(0);
        x.plans(0);
        due.is("drops()", x.drops(), 2);
        due.is("his(1) behind drops()", x.his(1), 0);
        due.is("plans behind drops()", x.plans(3), 1);
    }

    /** 18 */
    private static void his() {
        TurnVoice x = Towns.told(SQUARE);
        due.is("nothing planned", x.his(0), 17);
        x.plans(2);
        x.plans(2);
        x.plans(0);
        x.plans(1);
        x.plans(4);
        due.is("his(0) through GOAL", x.his(0), 5 + 8 + 11 + 9 + 9 + 9);
        due.is("his(1)", x.his(1), 5);
        x.plans(0);
        due.is("his(1), one that is not there", x.his(1), 5);
        x.shuts(0, 1);
        due.is("his(0), one SHUT", x.his(0), 5 + 8 + 8 + 4 + 9);
        due.is("his(1), one SHUT", x.his(1), 2);
        x.takes(2);
        due.is("his(0) as HE came", x.his(0), 8 + 8 + 4 + 9);
        due.is("his(1) as HE came", x.his(1), 2);
        x.shuts(3, 1);
        due.is("his(0), no way", x.his(0), NONE);
        due.is("his(1), no way", x.his(1), 2);
        due.is("his(2)", x.his(2), BAD);
        due.is("his(-1)", x.his(-1), BAD);
    }

    /** 19 */
    private static void cars() {
        TurnVoice x = Towns.told(LOOP);
        due.is("a road twice, one", x.cars(1, 0), 6);
        due.is("a road twice, one alike", x.cars(1, 1), 6);
        due.is("a road twice, one by one", x.cars(2, 0), 6 + 14);
        due.is("a road twice, alike", x.cars(2, 1), 2 * 14);
        due.is("none", x.cars(0, 0), 0);
        due.is("none alike", x.cars(0, 1), 0);
        x.takes(0);
        x.takes(1);
        due.is("from BEGIN, wherever HE is", x.cars(2, 0), 20);
        x.jams(0, 10);
        due.is("with a JAM", x.cars(1, 1), 16);
        due.is("cars(21, 0)", x.cars(21, 0), BAD);
        due.is("cars(-1, 0)", x.cars(-1, 0), BAD);
        due.is("cars(1, 2)", x.cars(1, 2), BAD);
        due.is("cars(1, -1)", x.cars(1, -1), BAD);
        x.shuts(1, 1);
        due.is("no way", x.cars(2, 0), NONE);
        due.is("no way alike", x.cars(2, 1), NONE);
        TurnVoice y = Towns.told("r0 1 5;r0 1 6;l1;");
        due.is("one by one, by two roads", y.cars(3, 0), 5 + 6 + 6);
        due.is("alike, by one road", y.cars(3, 1), 21);
        due.is("twenty", y.cars(20, 1), 20 * 24);
        TurnVoice z = Towns.told("r0 1 5;g1 1;");
        due.is("BEGIN is GOAL", z.cars(20, 0), 0);
        due.is("BEGIN is GOAL, alike", z.cars(20, 1), 0);
        TurnVoice w = Towns.told("r0 1 5;l0;");
        due.is("no LOAD", w.cars(4, 0), 20);
        due.is("no LOAD, alike", w.cars(4, 1), 20);
    }

    /** 20 */
    private static void tunnel() {
        TurnVoice x = Towns.told(SQUARE);
        int[] want = {1, 6, 25, 30, 31, 31};
        for (int k = 0; k < want.length; k++) {
            due.is("tunnel(" + k + ")", x.tunnel(k), want[k]);
        }
        due.is("tunnel(8)", x.tunnel(8), 31);
        due.is("tunnel(9)", x.tunnel(9), BAD);
        due.is("tunnel(-1)", x.tunnel(-1), BAD);
        x.saw(1, 4);
        due.is("what was SEEN counts not", x.tunnel(1), 6);
        x.takes(0);
        x.shuts(1, 1);
        due.is("from here, one SHUT", x.tunnel(1), 9);
        x.shuts(0, 1);
        x.shuts(5, 1);
        due.is("all SHUT", x.tunnel(1), 0);
        due.is("all SHUT, none", x.tunnel(0), 2);
    }

    /** 21 */
    private static void saw() {
        TurnVoice x = Towns.told(SQUARE);
        due.is("saw(9, 0)", x.saw(9, 0), BAD);
        due.is("saw(-1, 0)", x.saw(-1, 0), BAD);
        due.is("saw(0, 5)", x.saw(0, 5), BAD);
        due.is("saw(0, -1)", x.saw(0, -1), BAD);
        due.is("saw(8, 4)", x.saw(8, 4), 1);
        due.is("saw(8, 4) again", x.saw(8, 4), 2);
        due.is("saw(0, 0)", x.saw(0, 0), 3);
        due.is("saw(3, 3)", x.saw(3, 3), 4);
        due.is("saw(3, 2)", x.saw(3, 2), 5);
        due.is("saw a sixth", x.saw(3, 2), FULL);
        due.is("bad ahead of full", x.saw(3, 5), BAD);
        due.is("count(7)", x.count(7), 5);
    }

    /** 22 */
    private static void forget() {
        TurnVoice x = Towns.told(SQUARE);
        due.is("forget() of none", x.forget(), 0);
        x.saw(0, 1);
        x.saw(0, 1);
        due.is("forget()", x.forget(), 2);
        due.is("where(0) behind forget()", x.where(0), 1);
        due.is("saw behind forget()", x.saw(0, 1), 1);
    }

    /** 23 */
    private static void where() {
        TurnVoice x = Towns.told(SQUARE);
        due.is("where(2), none SEEN", x.where(2), 25);
        x.saw(2, 3);
        due.is("where(1) ahead of it", x.where(1), 6);
        due.is("where(2)", x.where(2), 8);
        due.is("where(3)", x.where(3), 22);
        x.saw(1, 2);
        due.is("where(1)", x.where(1), 4);
        x.saw(2, 4);
        due.is("two unlike", x.where(2), 0);
        due.is("two unlike, behind it", x.where(8), 0);
        due.is("where(0)", x.where(0), 1);
        due.is("where(9)", x.where(9), BAD);
        due.is("where(-1)", x.where(-1), BAD);
        x.forget();
        x.saw(0, 1);
        due.is("not here", x.where(0), 0);
        x.takes(0);
        due.is("here", x.where(0), 2);
        x.shuts(1, 1);
        due.is("open ROADS alone", x.where(1), 9);
    }

    /** 24 */
    private static void which() {
        TurnVoice x = Towns.told(SQUARE);
        due.is("which(0, 17)", x.which(0, 17), 63);
        due.is("which(1, 18)", x.which(1, 18), 3);
        due.is("which(1, 17)", x.which(1, 17), 60);
        due.is("which(60, 18)", x.which(60, 18), 3);
        due.is("which(60, 19)", x.which(60, 19), 0);
        x.takes(0);
        due.is("from BEGIN, wherever HE is", x.which(0, 17), 63);
        x.shuts(5, 1);
        due.is("a SHUT one longer", x.which(1, 17), 60);
        x.jams(1, 60);
        due.is("with a JAM", x.which(7, 25), 28);
        x.shuts(1, 1);
        x.shuts(4, 1);
        due.is("no way", x.which(0, 0), 0);
        due.is("which(61, 0)", x.which(61, 0), BAD);
        due.is("which(-1, 0)", x.which(-1, 0), BAD);
        due.is("which(0, 1000)", x.which(0, 1000), BAD);
        due.is("which(0, -1)", x.which(0, -1), BAD);
        due.is("which(0, 999)", x.which(0, 999), 0);
        due.is("BEGIN is GOAL", Towns.told("r0 1 5;g1 1;").which(60, 0), 1);
    }

    private static void oddsAre(String what, TurnVoice x, int p, int n, long upper, long lower) {
        due.is("odds(" + p + ", " + n + ", 0) " + what, x.odds(p, n, 0), upper);
        due.is("odds(" + p + ", " + n + ", 1) " + what, x.odds(p, n, 1), lower);
    }

    /** 25 */
    private static void odds() {
        TurnVoice x = Towns.told(SQUARE);
        oddsAre("here", x, 0, 0, 1, 1);
        oddsAre("not here", x, 1, 0, 0, 1);
        oddsAre("one road", x, 1, 1, 1, 2);
        oddsAre("two roads", x, 3, 2, 5, 12);
        oddsAre("back", x, 0, 2, 5, 12);
        oddsAre("four roads", x, 4, 4, 37, 216);
        x.shuts(0, 1);
        oddsAre("one SHUT", x, 2, 1, 1, 1);
        x.shuts(2, 1);
        oddsAre("all SHUT: stays", x, 0, 4, 1, 1);
        oddsAre("all SHUT: stays", x, 0, 3, 1, 1);
        oddsAre("all SHUT: elsewhere", x, 1, 4, 0, 1);
        TurnVoice y = Towns.told("p3;r0 1 1;r0 1 1;r0 2 1;");
        oddsAre("two roads to one place", y, 1, 1, 2, 3);
        TurnVoice z = Towns.told("p8;r0 1 1;r0 1 1;r0 2 1;r0 3 1;r0 4 1;r0 5 1;r0 6 1;r7 1 1;r7 1 1;r7 1 1;r7 2 1;r7 3 1;");
        oddsAre("twelve roads, two of them", z, 7, 2, 11, 35);
        // 24/35 are at 0 behind two and 11/35 at 7; from 7 back to 7 behind two: 14/25
        oddsAre("twelve roads, four of them", z, 7, 4, 24 * 11 * 5 + 11 * 14 * 7, 35 * 35 * 5);
        due.is("odds(3, 0, 0)", y.odds(3, 0, 0), BAD);
        due.is("odds(-1, 0, 0)", y.odds(-1, 0, 0), BAD);
        due.is("odds(0, 5, 0)", y.odds(0, 5, 0), BAD);
        due.is("odds(0, -1, 0)", y.odds(0, -1, 0), BAD);
        due.is("odds(0, 0, 2)", y.odds(0, 0, 2), BAD);
        due.is("odds(0, 0, -1)", y.odds(0, 0, -1), BAD);
    }

    /** 26 */
    private static void rate() {
        TurnVoice x = Towns.told(SQUARE);
        x.takes(0);
        x.takes(0);
        x.jams(3, 7);
        x.shuts(4, 1);
        x.shuts(5, 1);
        int[] want = {11, 18, 9, 36, 12, 12};
        for (int kind = 0; kind < 6; kind++) {
            due.is("rate(" + kind + ", 3)", x.rate(kind, 3), want[kind]);
        }
        due.is("rate(6, 0)", x.rate(6, 0), NO);
        due.is("rate(-1, 0)", x.rate(-1, 0), NO);
        due.is("rate(0, 6)", x.rate(0, 6), NO);
        due.is("rate(0, -1)", x.rate(0, -1), NO);
        TurnVoice y = Towns.told("r0 1 1;r0 1 1;r0 1 1;");
        y.shuts(0, 1);
        y.shuts(1, 1);
        y.shuts(2, 1);
        due.is("below 0", y.rate(2, 0), -2);
    }

    /** 27 */
    private static void keep() {
        TurnVoice x = Towns.told(SQUARE);
        due.is("keep(0) at first", x.keep(0), 0);
        x.takes(0);
        due.is("keep(1)", x.keep(1), 8);
        x.takes(0);
        due.is("keep(1) anew", x.keep(1), 19);
        due.is("keep(2)", x.keep(2), BAD);
        due.is("keep(-1)", x.keep(-1), BAD);
        due.is("keep() can't be UNDONE", x.undo(), 1);
        due.is("back(1)", x.back(1), 19);
        due.is("back(0)", x.back(0), 0);
    }

    /** 28 */
    private static void back() {
        TurnVoice x = Towns.told(SQUARE);
        due.is("none was kept", x.back(1), STATE);
        due.is("back(2)", x.back(2), BAD);
        due.is("back(-1)", x.back(-1), BAD);
        x.takes(0);
        x.jams(1, 5);
        x.shuts(2, 1);
        x.keep(1);
        x.takes(0);
        x.jams(1, 6);
        x.shuts(2, 0);
        x.plans(0);
        x.saw(1, 1);
        due.is("the other was not kept", x.back(0), STATE);
        due.is("that refused, all may be UNDONE", x.now(5), 6);
        due.is("back(1)", x.back(1), 8);
        nowIs("behind back()", x, 1, 0, 8, 0, 4, 0);
        due.is("JAM behind back()", x.road(1, 3), 5);
        due.is("undo() behind back()", x.undo(), STATE);
        countsAre("nothing else", x, 5, 6, 0, 4, 3, 2, 1, 1, 0);
        x.takes(5);
        due.is("back(1) again", x.back(1), 8);
        nowIs("behind back() again", x, 1, 0, 8, 0, 4, 0);
        x.takes(5);
        due.is("undo() to back()", x.undo(), 0);
    }

    /** 29 */
    private static void count() {
        TurnVoice x = Towns.told("p8;r0 7 1;r0 7 1;g3 5;n20;l9;");
        x.plans(0);
        x.saw(0, 0);
        x.saw(0, 0);
        x.type(0);
        x.type(0);
        x.type(0);
        countsAre("as told", x, 8, 2, 3, 5, 20, 9, 1, 2, 3);
        due.is("count(9)", x.count(9), BAD);
        due.is("count(-1)", x.count(-1), BAD);
    }

    /** 30 */
    private static void trace() {
        TurnVoice x = Towns.told(SQUARE);
        long[] added = {1, 11, 101, 1011, 10101, 100001};
        long sum = 0;
        for (int kind = 0; kind < 6; kind++) {
            x.rate(kind, 0);
            sum += added[kind];
            due.is("trace() behind rate(" + kind + ", 0)", x.trace(), sum);
        }
        x.rate(6, 0);
        x.rate(0, 6);
        due.is("trace() behind NO", x.trace(), sum);
        x.takes(0);
        x.keep(0);
        x.back(0);
        due.is("trace() behind back()", x.trace(), sum);
        for (int i = 0; i < 400; i++) {
            x.rate(5, 0);
        }
        due.is("trace() behind 400 more", x.trace(), sum + 400 * 100001L);
    }
}
