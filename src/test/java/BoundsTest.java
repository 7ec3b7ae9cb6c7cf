import java.util.function.IntToLongFunction;

/** Promises 5 to 30: for each number the last that is allowed and the first that is not, on both sides; empty, full, round. */
public final class BoundsTest {
    private static final int BAD = TurnVoice.BAD;
    private static final int STATE = TurnVoice.STATE;
    private static final int FULL = TurnVoice.FULL;
    private static final int NONE = TurnVoice.NONE;
    private static final int NO = TurnVoice.NO;
    private static final int LEAST = Integer.MIN_VALUE;
    private static final int MOST = Integer.MAX_VALUE;
    private static final Due due = new Due();

    public static void main(String[] args) {
        constants();
        numbersOfTheTown();
        numbersOfWhatIsDone();
        numbersOfTheWay();
        numbersOfTunnels();
        numbersOfKindsAndImages();
        jamOfAShutRoad();
        longestRoad();
        turns();
        undoneTen();
        undoneRoundTheRing();
        undoneOnlyWhatWasNotRefused();
        undoneBehindKeepAndBack();
        wayByItsLastRoad();
        wayAtGoal();
        noWay();
        roundAndOn();
        worstOfAll();
        hisEight();
        hisNone();
        carsNoneAndTwenty();
        tunnelEight();
        seenFive();
        seenBehindZeroAndEight();
        whichTo999();
        oddsBounds();
        ratesBelowNothing();
        imagesTwo();
        calls512();
        callsFarBehind512();
        due.end();
    }

    /** Refused for just the numbers that are not low .. high, also for those that look like them in a few bits. */
    private static void allows(String call, int low, int high, int refusal, IntToLongFunction asked) {
        int[] beyond = {low - 1, low - 2, high + 1, high + 2, LEAST, LEAST + 1, MOST, MOST - 1, low + 32, low + 64, low + 256,
            high + 65536, low + (1 << 30), low ^ LEAST, high ^ LEAST};
        for (int n : beyond) {
            if (n < low || n > high) {
                due.is(call + " of " + n, asked.applyAsLong(n), refusal);
            }
        }
        for (int n = low; n <= high; n++) {
            due.holds(call + " of " + n + " is allowed", asked.applyAsLong(n) != refusal);
        }
    }

    private static void constants() {
        due.is("BAD", BAD, -1);
        due.is("STATE", STATE, -2);
        due.is("FULL", FULL, -3);
        due.is("NONE", NONE, -9);
        due.is("NO", NO, -1000000);
    }

    private static void numbersOfTheTown() {
        TurnVoice x = new TurnVoice();
        due.is("type(-1)", x.type(-1), BAD);
        due.is("type(256)", x.type(256), BAD);
        due.is("type(least)", x.type(LEAST), BAD);
        due.is("type(most)", x.type(MOST), BAD);
        due.is("type(0)", x.type(0), 1);
        due.is("type(255)", x.type(255), 2);
        TurnVoice y = Towns.told(Towns.TWELVE);
        allows("road(r, 0)", 0, 11, BAD, r -> y.road(r, 0));
        allows("road(11, what)", 0, 5, BAD, what -> y.road(11, what));
        allows("place(p)", 0, 1, BAD, y::place);
        TurnVoice z = Towns.told(Towns.FAR);
        allows("place(p) of eight", 0, 7, BAD, z::place);
        allows("road(r, 5) of seven", 0, 6, BAD, r -> z.road(r, 5));
        allows("now(what)", 0, 5, BAD, z::now);
        allows("count(what)", 0, 8, BAD, z::count);
    }

    private static void numbersOfWhatIsDone() {
        TurnVoice x = Towns.told(Towns.TWELVE);
        allows("takes(r)", 0, 11, BAD, x::takes);
        allows("jams(r, 0)", 0, 11, BAD, r -> x.jams(r, 0));
        allows("jams(11, n)", 0, 60, BAD, n -> x.jams(11, n));
        allows("shuts(r, 1)", 0, 11, BAD, r -> x.shuts(r, 1));
        allows("shuts(11, is)", 0, 1, BAD, is -> x.shuts(11, is));
    }

    private static void numbersOfTheWay() {
        TurnVoice x = Towns.told(Towns.TWELVE);
        due.is("way(-3)", x.way(-3), BAD);
        due.is("way(least)", x.way(LEAST), BAD);
        int[] behindTheLast = {1, 2, 23, 24, 25, 32, 64, 256, 65536, MOST - 1, MOST};
        for (int k : behindTheLast) {
            due.is("way(" + k + ")", x.way(k), -5);
        }
        allows("on(r)", 0, 11, BAD, x::on);
        allows("worst(what)", 0, 1, BAD, x::worst);
        allows("his(what)", 0, 1, BAD, x::his);
        allows("cars(n, 0)", 0, 20, BAD, n -> x.cars(n, 0));
        allows("cars(n, 1)", 0, 20, BAD, n -> x.cars(n, 1));
        allows("cars(3, what)", 0, 1, BAD, what -> x.cars(3, what));
        TurnVoice y = Towns.told(Towns.TWELVE);
        allows("plans(r)", 0, 11, BAD, y::plans);
    }

    private static void numbersOfTunnels() {
        TurnVoice x = Towns.told(Towns.FAR);
        allows("tunnel(k)", 0, 8, BAD, x::tunnel);
        allows("saw(k, 7)", 0, 8, BAD, k -> x.saw(k, 7));
        allows("saw(8, p)", 0, 7, BAD, p -> x.saw(8, p));
        allows("where(k)", 0, 8, BAD, x::where);
        allows("which(j, 0)", 0, 60, BAD, j -> x.which(j, 0));
        TurnVoice y = Towns.told(Towns.FAR);
        allows("odds(p, 4, 0)", 0, 7, BAD, p -> y.odds(p, 4, 0));
        allows("odds(7, n, 0)", 0, 4, BAD, n -> y.odds(7, n, 0));
        allows("odds(7, 4, what)", 0, 1, BAD, what -> y.odds(7, 4, what));
        due.is("which(0, -1)", y.which(0, -1), BAD);
        due.is("which(0, least)", y.which(0, LEAST), BAD);
        due.is("which(0, 1000)", y.which(0, 1000), BAD);
        due.is("which(0, most)", y.which(0, MOST), BAD);
        TurnVoice z = new TurnVoice();
        allows("saw(0, p) of two", 0, 1, BAD, p -> z.saw(0, p));
        allows("odds(p, 0, 1) of two", 0, 1, BAD, p -> z.odds(p, 0, 1));
    }

    private static void numbersOfKindsAndImages() {
        TurnVoice x = Towns.told(Towns.TWELVE);
        allows("rate(kind, 0)", 0, 5, NO, kind -> x.rate(kind, 0));
        allows("rate(0, r)", 0, 11, NO, r -> x.rate(0, r));
        due.is("trace() of what was not refused", x.trace(), 1 + 11 + 101 + 1011 + 10101 + 100001 + 12);
        allows("keep(image)", 0, 1, BAD, x::keep);
        allows("back(image)", 0, 1, BAD, x::back);
    }

    private static void jamOfAShutRoad() {
        TurnVoice x = Towns.told("r0 1 5;");
        x.shuts(0, 1);
        due.is("jams() of a SHUT one", x.jams(0, 60), 0);
        due.is("jams() to none", x.jams(0, 0), 60);
        due.is("jams() to none again", x.jams(0, 0), 0);
        due.is("all of these may be UNDONE", x.now(5), 4);
    }

    private static void longestRoad() {
        TurnVoice x = Towns.told("r0 1 60;r0 1 1;n20;");
        due.is("LONG of 60", x.road(0, 2), 60);
        due.is("LONG of 1", x.road(1, 2), 1);
        x.jams(0, 60);
        due.is("LONG of 60 and 60", x.road(0, 2), 120);
        due.is("the first is no TURN", x.takes(0), 120);
        due.is("the same, back, is a TURN", x.takes(0), 140);
        due.is("TURNS", x.now(3), 1);
    }

    /** Where NERVES are 0 a TURN is counted all the same; STRAIGHT roads are no TURN at either end, both ways. */
    private static void turns() {
        TurnVoice x = Towns.told("r0 1 3;r1 0 4;r0 1 5;s1 0;n0;");
        due.is("takes(0)", x.takes(0), 3);
        due.is("takes(1), STRAIGHT", x.takes(1), 4);
        due.is("takes(0), STRAIGHT", x.takes(0), 3);
        due.is("no TURNS", x.now(3), 0);
        due.is("takes(0), back", x.takes(0), 3);
        due.is("takes(2), another", x.takes(2), 5);
        due.is("TURNS", x.now(3), 2);
        due.is("minutes", x.now(2), 18);
    }

    private static TurnVoice jammed(int times) {
        TurnVoice x = Towns.told("r0 1 5;");
        for (int n = 1; n <= times; n++) {
            x.jams(0, n);
        }
        return x;
    }

    /** 10 are known, older ones are lost. */
    private static void undoneTen() {
        for (int times = 0; times <= 12; times++) {
            TurnVoice x = jammed(times);
            int known = Math.min(times, 10);
            due.is("now(5) behind " + times, x.now(5), known);
            for (int left = known - 1; left >= 0; left--) {
                due.is("undo() of " + times, x.undo(), left);
                due.is("now(5) then", x.now(5), left);
                due.is("JAM then", x.road(0, 3), times - known + left);
            }
            due.is("undo() of none, " + times, x.undo(), STATE);
            due.is("JAM behind that", x.road(0, 3), times - known);
        }
    }

    /** Undone and done again and again, so that a ring of ten goes round more than once. */
    private static void undoneRoundTheRing() {
        TurnVoice x = jammed(7);
        for (int i = 0; i < 30; i++) {
            due.is("undo()", x.undo(), i == 0 ? 6 : Math.min(6 + i, 9));
            int before = x.road(0, 3);
            x.jams(0, 40);
            x.jams(0, before + 1);
        }
        for (int left = 9; left >= 0; left--) {
            due.is("undo() round", x.undo(), left);
        }
        due.is("undo() round, none", x.undo(), STATE);
    }

    private static void undoneOnlyWhatWasNotRefused() {
        TurnVoice x = Towns.told(Towns.SQUARE);
        x.jams(0, 7);
        x.jams(0, 61);
        x.shuts(0, 0);
        x.takes(4);
        x.takes(6);
        x.rate(0, 0);
        x.plans(0);
        x.saw(0, 0);
        x.keep(0);
        x.way(-1);
        due.is("one may be UNDONE", x.now(5), 1);
        due.is("undo() of it", x.undo(), 0);
        due.is("JAM", x.road(0, 3), 0);
        due.is("planned stays", x.count(6), 1);
        due.is("SEEN stays", x.count(7), 1);
        due.is("THE TRACE stays", x.trace(), 1);
        due.is("undo() can't be UNDONE", x.undo(), STATE);
    }

    private static void undoneBehindKeepAndBack() {
        TurnVoice x = jammed(12);
        x.keep(0);
        due.is("now(5) behind keep()", x.now(5), 10);
        due.is("undo() behind keep()", x.undo(), 9);
        due.is("back()", x.back(0), 0);
        due.is("JAM behind back()", x.road(0, 3), 12);
        due.is("now(5) behind back()", x.now(5), 0);
        due.is("undo() behind back()", x.undo(), STATE);
        for (int n = 1; n <= 11; n++) {
            x.jams(0, n);
        }
        for (int left = 9; left >= 0; left--) {
            due.is("undo() behind all that", x.undo(), left);
        }
        due.is("JAM behind all that", x.road(0, 3), 1);
        due.is("undo() of none behind all that", x.undo(), STATE);
    }

    private static void wayByItsLastRoad() {
        TurnVoice x = Towns.told(Towns.FAR);
        due.is("way(-3)", x.way(-3), BAD);
        due.is("way(-2)", x.way(-2), 6);
        due.is("way(-1)", x.way(-1), 7 * 60 + 6 * 20);
        for (int k = 0; k < 7; k++) {
            due.is("way(" + k + ")", x.way(k), k);
        }
        due.is("way(7)", x.way(7), -5);
        due.is("way(8)", x.way(8), -5);
        due.is("way(most)", x.way(MOST), -5);
        for (int r = 0; r < 7; r++) {
            x.jams(r, 60);
        }
        due.is("as long as a way can be", x.way(-1), 7 * 120 + 6 * 20);
        for (int r = 0; r < 6; r++) {
            x.takes(r);
        }
        due.is("one road is left", x.way(-1), 140);
        due.is("a TURN is left", x.way(-2), 1);
        due.is("the last one", x.way(0), 6);
        due.is("behind the last one", x.way(1), -5);
    }

    private static void wayAtGoal() {
        TurnVoice x = Towns.told("r0 1 5;");
        x.takes(0);
        due.is("way(-1) at GOAL", x.way(-1), 0);
        due.is("way(-2) at GOAL", x.way(-2), 0);
        due.is("way(0) at GOAL", x.way(0), -5);
        due.is("way(-3) at GOAL", x.way(-3), BAD);
        due.is("round() at GOAL", x.round(), NONE);
        due.is("on(0) at GOAL", x.on(0), 2 + 5 + 2 + 5);
        due.is("his(0) at GOAL", x.his(0), 0);
        x.shuts(0, 1);
        due.is("way(-1) at GOAL, all SHUT", x.way(-1), 0);
        due.is("way(0) at GOAL, all SHUT", x.way(0), -5);
        due.is("worst(0) at GOAL, all SHUT", x.worst(0), NONE);
        due.is("worst(1) at GOAL, all SHUT", x.worst(1), NONE);
    }

    /** On a new object, and where the last road is SHUT. */
    private static void noWay() {
        TurnVoice fresh = new TurnVoice();
        TurnVoice closed = Towns.told("r0 1 5;");
        closed.shuts(0, 1);
        TurnVoice[] both = {fresh, closed};
        for (TurnVoice x : both) {
            for (int k = -2; k <= 2; k++) {
                due.is("way(" + k + "), no way", x.way(k), NONE);
            }
            due.is("way(most), no way", x.way(MOST), NONE);
            due.is("way(-3), no way", x.way(-3), BAD);
            due.is("round(), no way", x.round(), NONE);
            due.is("worst(0), no way", x.worst(0), NONE);
            due.is("worst(1), no way", x.worst(1), NONE);
            due.is("his(0), no way", x.his(0), NONE);
            due.is("his(1), no way", x.his(1), 0);
            due.is("cars(1, 0), no way", x.cars(1, 0), NONE);
            due.is("cars(20, 1), no way", x.cars(20, 1), NONE);
            due.is("tunnel(0), no road", x.tunnel(0), 1);
            due.is("tunnel(1), no road", x.tunnel(1), 0);
            due.is("tunnel(8), no road", x.tunnel(8), 0);
            due.is("where(0), no road", x.where(0), 1);
            due.is("where(1), no road", x.where(1), 0);
            due.is("which(0, 0), no way", x.which(0, 0), 0);
            due.is("which(60, 999), no way", x.which(60, 999), 0);
            due.is("odds(0, 4, 0), stays", x.odds(0, 4, 0), 1);
            due.is("odds(0, 4, 1), stays", x.odds(0, 4, 1), 1);
            due.is("odds(1, 4, 0), never", x.odds(1, 4, 0), 0);
            due.is("odds(1, 4, 1), never", x.odds(1, 4, 1), 1);
        }
    }

    private static void roundAndOn() {
        TurnVoice x = Towns.told("p3;r0 1 5;r0 2 7;n0;");
        due.is("round(), came by none", x.round(), 0);
        x.takes(1);
        due.is("round(), no other way", x.round(), 1);
        due.is("on(1), back", x.on(1), 12);
        due.is("on(0), not there", x.on(0), BAD);
        x.takes(1);
        due.is("round(), another way", x.round(), 0);
        due.is("on(1), a way round", x.on(1), 7 + 7 + 5);
        x.shuts(0, 1);
        due.is("on(0), SHUT", x.on(0), BAD);
        due.is("on(1), no way", x.on(1), NONE);
        due.is("round(), no way", x.round(), NONE);
    }

    /** Of several the lowest; no way at all is longest; the last road counts, too. */
    private static void worstOfAll() {
        TurnVoice x = Towns.told(Towns.TWELVE);
        due.is("all alike: the lowest", x.worst(0), 0);
        due.is("all alike: how much", x.worst(1), 1);
        for (int r = 0; r < 11; r++) {
            x.shuts(r, 1);
        }
        due.is("the last one open", x.worst(0), 11);
        due.is("the last one open: how much", x.worst(1), -5);
        TurnVoice y = Towns.told("p3;r0 1 60;r0 2 1;r2 1 1;r0 2 2;s1 2;n0;");
        due.is("the longest then", y.worst(0), 2);
        due.is("how long then", y.worst(1), 60);
        y.shuts(0, 1);
        due.is("no way then is longest", y.worst(0), 2);
        due.is("no way then", y.worst(1), -5);
        TurnVoice z = Towns.told(Towns.FAR);
        due.is("each of them: the lowest", z.worst(0), 0);
        due.is("each of them: no way", z.worst(1), -5);
    }

    /** 8 planned at most; all of them may be taken, through GOAL, too, and one more than once. */
    private static void hisEight() {
        TurnVoice x = Towns.told("r0 1 60;n20;");
        x.jams(0, 60);
        for (int i = 1; i <= 8; i++) {
            due.is("plans() of " + i, x.plans(0), i);
            due.is("his(1) of " + i, x.his(1), i);
            due.is("his(0) of " + i, x.his(0), i * 120 + (i - 1) * 20 + (i % 2 == 0 ? 140 : 0));
        }
        due.is("plans() of a ninth", x.plans(0), FULL);
        due.is("planned", x.count(6), 8);
        due.is("drops() of eight", x.drops(), 8);
        due.is("drops() of none", x.drops(), 0);
        due.is("plans() behind drops()", x.plans(0), 1);
    }

    private static void hisNone() {
        TurnVoice x = Towns.told(Towns.SQUARE);
        due.is("his(1), nothing planned", x.his(1), 0);
        due.is("his(0), nothing planned", x.his(0), 17);
        x.plans(4);
        x.plans(0);
        due.is("his(1), the first is not there", x.his(1), 0);
        due.is("his(0), the first is not there", x.his(0), 17);
        x.takes(0);
        due.is("his(0) from there", x.his(0), 9);
        due.is("his(-1)", x.his(-1), BAD);
        due.is("his(2)", x.his(2), BAD);
    }

    private static void carsNoneAndTwenty() {
        TurnVoice x = Towns.told(Towns.FAR);
        due.is("cars(0, 0)", x.cars(0, 0), 0);
        due.is("cars(0, 1)", x.cars(0, 1), 0);
        due.is("cars(1, 0)", x.cars(1, 0), 540);
        due.is("cars(1, 1)", x.cars(1, 1), 540);
        due.is("cars(20, 0)", x.cars(20, 0), 20 * 540 + 190 * 7 * 9);
        due.is("cars(20, 1)", x.cars(20, 1), 20 * (540 + 19 * 7 * 9));
        due.is("cars(21, 0)", x.cars(21, 0), BAD);
        due.is("cars(21, 1)", x.cars(21, 1), BAD);
        due.is("cars(-1, 1)", x.cars(-1, 1), BAD);
        for (int r = 0; r < 7; r++) {
            x.jams(r, 60);
        }
        due.is("cars(20, 1) with all JAMS", x.cars(20, 1), 20 * (960 + 19 * 7 * 9));
        for (int n = 0; n <= 20; n++) {
            due.is("cars(" + n + ", 0) with no LOAD", Towns.told("r0 1 5;l0;").cars(n, 0), 5 * n);
        }
    }

    private static void tunnelEight() {
        TurnVoice x = Towns.told(Towns.FAR);
        due.is("tunnel(0)", x.tunnel(0), 1);
        due.is("tunnel(1)", x.tunnel(1), 2);
        due.is("tunnel(7)", x.tunnel(7), 2 + 8 + 32 + 128);
        due.is("tunnel(8)", x.tunnel(8), 1 + 4 + 16 + 64);
    }

    /** 5 at most. */
    private static void seenFive() {
        TurnVoice x = Towns.told(Towns.FAR);
        for (int i = 1; i <= 5; i++) {
            due.is("saw() of " + i, x.saw(i, i), i);
        }
        due.is("saw() of a sixth", x.saw(6, 6), FULL);
        due.is("SEEN", x.count(7), 5);
        due.is("where(5)", x.where(5), 32);
        due.is("where(6), the sixth was not SEEN", x.where(6), 16 + 64);
        due.is("forget() of five", x.forget(), 5);
        due.is("forget() of none", x.forget(), 0);
        due.is("where(5), none SEEN", x.where(5), 2 + 8 + 32);
        due.is("saw() behind forget()", x.saw(0, 0), 1);
    }

    private static void seenBehindZeroAndEight() {
        TurnVoice x = Towns.told(Towns.FAR);
        due.is("saw(8, 0)", x.saw(8, 0), 1);
        due.is("where(7), SEEN later counts not", x.where(7), 2 + 8 + 32 + 128);
        due.is("where(8)", x.where(8), 1);
        due.is("saw(0, 7)", x.saw(0, 7), 2);
        due.is("where(0), not there", x.where(0), 0);
        due.is("where(8), never", x.where(8), 0);
        x.forget();
        x.saw(0, 0);
        due.is("where(0), there", x.where(0), 1);
    }

    /** 840 and 120 minutes, 39 longer: 999 is told, 1000 can't be asked for. */
    private static void whichTo999() {
        TurnVoice x = Towns.told(Towns.FAR);
        for (int r = 0; r < 7; r++) {
            x.jams(r, 60);
        }
        due.is("which(39, 999)", x.which(39, 999), 127);
        due.is("which(38, 999)", x.which(38, 999), 0);
        due.is("which(40, 999)", x.which(40, 999), 0);
        due.is("which(40, 1000)", x.which(40, 1000), BAD);
        due.is("which(0, 960)", x.which(0, 960), 127);
        due.is("which(60, 960)", x.which(60, 960), 0);
        due.is("which(60, 0)", x.which(60, 0), 0);
        due.is("which(61, 999)", x.which(61, 999), BAD);
        due.is("which(-1, 999)", x.which(-1, 999), BAD);
        TurnVoice y = Towns.told("r0 1 1;g0 0;");
        due.is("which(0, 0), BEGIN is GOAL", y.which(0, 0), 1);
        due.is("which(60, 0), BEGIN is GOAL", y.which(60, 0), 1);
        due.is("which(0, 1), BEGIN is GOAL", y.which(0, 1), 0);
        due.is("which(0, 0), no ROADS", new TurnVoice().which(0, 0), 0);
        due.is("twelve of them", Towns.told(Towns.TWELVE).which(60, 1), 4095);
    }

    private static void oddsBounds() {
        TurnVoice x = Towns.told(Towns.TWELVE);
        due.is("odds(1, 1, 0) by twelve", x.odds(1, 1, 0), 1);
        due.is("odds(1, 1, 1) by twelve", x.odds(1, 1, 1), 1);
        due.is("odds(0, 3, 0), never", x.odds(0, 3, 0), 0);
        due.is("odds(0, 3, 1), never", x.odds(0, 3, 1), 1);
        due.is("odds(0, 4, 0), surely", x.odds(0, 4, 0), 1);
        TurnVoice y = Towns.told("p8;r0 1 1;r0 2 1;r0 3 1;r0 4 1;r0 5 1;r0 6 1;r0 7 1;");
        due.is("odds(7, 1, 1)", y.odds(7, 1, 1), 7);
        due.is("odds(0, 2, 1)", y.odds(0, 2, 1), 1);
        due.is("odds(7, 3, 0)", y.odds(7, 3, 0), 1);
        due.is("odds(7, 3, 1)", y.odds(7, 3, 1), 7);
        due.is("odds(0, 5, 0)", y.odds(0, 5, 0), BAD);
        due.is("odds(8, 4, 0)", y.odds(8, 4, 0), BAD);
    }

    /** NO lies far below the least that a rate can be: 12 SHUT, a road 1 LONG. */
    private static void ratesBelowNothing() {
        TurnVoice x = Towns.told(Towns.TWELVE);
        for (int r = 0; r < 12; r++) {
            due.is("shuts() of " + r, x.shuts(r, 1), r + 1);
        }
        due.is("rate(2, 0)", x.rate(2, 0), 1 - 12);
        due.is("rate(4, 0)", x.rate(4, 0), 1 - 12);
        due.is("rate(4, 11)", x.rate(4, 11), 0);
        due.is("rate(2, 12)", x.rate(2, 12), NO);
        x.jams(11, 60);
        due.is("rate(3, 11)", x.rate(3, 11), 2 * (61 + 60));
        due.is("rate(1, 11)", x.rate(1, 11), 61 + 60);
        due.is("trace()", x.trace(), 101 + 10101 + 10101 + 1011 + 11);
    }

    private static void imagesTwo() {
        TurnVoice x = Towns.told(Towns.SQUARE);
        due.is("back(0), none", x.back(0), STATE);
        due.is("back(1), none", x.back(1), STATE);
        x.takes(0);
        due.is("keep(1)", x.keep(1), 8);
        due.is("back(0), none still", x.back(0), STATE);
        x.takes(1);
        due.is("keep(0)", x.keep(0), 17);
        due.is("back(1)", x.back(1), 8);
        due.is("back(0)", x.back(0), 17);
        due.is("back(0) again", x.back(0), 17);
        due.is("keep(1) anew", x.keep(1), 17);
        due.is("back(1) of the new one", x.back(1), 17);
        due.is("keep(2)", x.keep(2), BAD);
        due.is("back(2)", x.back(2), BAD);
        x.type('x');
        due.is("town() with a fault", x.town(), -10);
        due.is("back(0) behind a fault", x.back(0), 17);
        x.clear();
        x.town();
        due.is("back(0) anew", x.back(0), STATE);
        due.is("back(1) anew", x.back(1), STATE);
    }

    /** An object is used for at most 512 calls: the 512th is answered as the first one. */
    private static void calls512() {
        TurnVoice x = Towns.told("r0 1 1;");
        for (int call = 9; call <= 511; call++) {
            due.is("rate() as call " + call, x.rate(5, 0), 1);
        }
        due.is("trace() as call 512", x.trace(), 503 * 100001L);
        TurnVoice y = Towns.told("r0 1 1;");
        for (int call = 9; call <= 511; call++) {
            due.is("takes() as call " + call, y.takes(0), call == 9 ? 1 : 3);
        }
        due.is("minutes as call 512", y.now(2), 1 + 502 * 3);
        TurnVoice z = Towns.told("r0 1 1;");
        for (int call = 9; call <= 511; call++) {
            z.jams(0, call % 60);
        }
        due.is("undo() as call 512", z.undo(), 9);
        TurnVoice w = new TurnVoice();
        for (int call = 1; call <= 511; call++) {
            due.is("type() as call " + call, w.type(32), call <= 200 ? call : FULL);
        }
        due.is("town() as call 512", w.town(), 0);
    }

    /** What later calls answer is free, but none may throw. */
    private static void callsFarBehind512() {
        TurnVoice x = Towns.told(Towns.SQUARE);
        for (int i = 0; i < 3000; i++) {
            x.type('n');
            x.jams(i % 6, i % 61);
            x.takes(i % 6);
            x.shuts(i % 6, i % 2);
            x.plans(i % 6);
            x.saw(i % 9, i % 5);
            x.rate(i % 6, i % 6);
            x.keep(i % 2);
            x.cars(20, i % 2);
            if (i % 7 == 0) {
                x.back(i % 2);
            }
        }
        due.holds("TRACE is not below 0", x.trace() > 0);
    }
}
