import java.util.List;
import java.util.function.Supplier;
import java.util.function.ToLongFunction;

/**
 * "Refused, and nothing changes, the first of these: BAD, STATE, FULL": of two objects that are alike one
 * hears a call that is refused (or one that tells only how things are NOW); they must be alike behind it.
 */
public final class RefusedTest {
    private static final int BAD = TurnVoice.BAD;
    private static final int STATE = TurnVoice.STATE;
    private static final int FULL = TurnVoice.FULL;
    private static final int NONE = TurnVoice.NONE;
    private static final int NO = TurnVoice.NO;
    private static final Due due = new Due();

    public static void main(String[] args) {
        theTown();
        whatIsDone();
        theWay();
        hisWayAndCars();
        tunnels();
        kindsAndImages();
        full();
        nothingTold();
        faults();
        at9999();
        nothingOfThatIsKnown();
        theFirstOfThese();
        asThingsAreNow();
        due.end();
    }

    /** HE is at 3, came by 5, drove 13 minutes with 1 turn; 4 is shut; 7 can be undone; all rows hold something. */
    private static TurnVoice busy() {
        TurnVoice x = Towns.told(Towns.SQUARE);
        x.rate(3, 1);
        x.jams(1, 12);
        x.takes(0);
        x.keep(0);
        x.shuts(2, 1);
        x.takes(5);
        x.keep(1);
        x.shuts(4, 1);
        x.shuts(2, 0);
        x.jams(3, 60);
        x.plans(5);
        x.plans(0);
        x.saw(1, 1);
        x.saw(2, 4);
        Towns.add(x, "p3;n7;");
        return x;
    }

    private static void unchanged(String what, Supplier<TurnVoice> made, ToLongFunction<TurnVoice> call, long answer) {
        TurnVoice x = made.get();
        TurnVoice twin = made.get();
        due.is(what, call.applyAsLong(x), answer);
        List<String> got = Looks.whole(x);
        List<String> want = Looks.whole(twin);
        due.is("answers behind " + what, got.size(), want.size());
        for (int i = 0; i < got.size() && i < want.size(); i++) {
            due.holds("behind " + what + ": " + got.get(i) + ", due is " + want.get(i), got.get(i).equals(want.get(i)));
        }
    }

    private static void refused(String what, ToLongFunction<TurnVoice> call, long answer) {
        unchanged(what, RefusedTest::busy, call, answer);
    }

    private static void theTown() {
        refused("type(-1)", x -> x.type(-1), BAD);
        refused("type(256)", x -> x.type(256), BAD);
        refused("road(-1, 0)", x -> x.road(-1, 0), BAD);
        refused("road(6, 0)", x -> x.road(6, 0), BAD);
        refused("road(0, -1)", x -> x.road(0, -1), BAD);
        refused("road(0, 6)", x -> x.road(0, 6), BAD);
        refused("place(-1)", x -> x.place(-1), BAD);
        refused("place(5)", x -> x.place(5), BAD);
        refused("now(-1)", x -> x.now(-1), BAD);
        refused("now(6)", x -> x.now(6), BAD);
    }

    private static void whatIsDone() {
        refused("takes(-1)", x -> x.takes(-1), BAD);
        refused("takes(6)", x -> x.takes(6), BAD);
        refused("takes(4), SHUT", x -> x.takes(4), STATE);
        refused("takes(0), not where HE is", x -> x.takes(0), STATE);
        refused("jams(-1, 1)", x -> x.jams(-1, 1), BAD);
        refused("jams(6, 1)", x -> x.jams(6, 1), BAD);
        refused("jams(0, -1)", x -> x.jams(0, -1), BAD);
        refused("jams(0, 61)", x -> x.jams(0, 61), BAD);
        refused("shuts(-1, 1)", x -> x.shuts(-1, 1), BAD);
        refused("shuts(6, 1)", x -> x.shuts(6, 1), BAD);
        refused("shuts(0, -1)", x -> x.shuts(0, -1), BAD);
        refused("shuts(0, 2)", x -> x.shuts(0, 2), BAD);
        refused("shuts(4, 1), it is so", x -> x.shuts(4, 1), STATE);
        refused("shuts(0, 0), it is so", x -> x.shuts(0, 0), STATE);
    }

    private static void theWay() {
        refused("way(-3)", x -> x.way(-3), BAD);
        refused("on(-1)", x -> x.on(-1), BAD);
        refused("on(6)", x -> x.on(6), BAD);
        refused("on(0), it is not there", x -> x.on(0), BAD);
        refused("on(4), SHUT", x -> x.on(4), BAD);
        refused("worst(-1)", x -> x.worst(-1), BAD);
        refused("worst(2)", x -> x.worst(2), BAD);
    }

    private static void hisWayAndCars() {
        refused("plans(-1)", x -> x.plans(-1), BAD);
        refused("plans(6)", x -> x.plans(6), BAD);
        refused("his(-1)", x -> x.his(-1), BAD);
        refused("his(2)", x -> x.his(2), BAD);
        refused("cars(-1, 0)", x -> x.cars(-1, 0), BAD);
        refused("cars(21, 0)", x -> x.cars(21, 0), BAD);
        refused("cars(1, -1)", x -> x.cars(1, -1), BAD);
        refused("cars(1, 2)", x -> x.cars(1, 2), BAD);
    }

    private static void tunnels() {
        refused("tunnel(-1)", x -> x.tunnel(-1), BAD);
        refused("tunnel(9)", x -> x.tunnel(9), BAD);
        refused("saw(-1, 0)", x -> x.saw(-1, 0), BAD);
        refused("saw(9, 0)", x -> x.saw(9, 0), BAD);
        refused("saw(0, -1)", x -> x.saw(0, -1), BAD);
        refused("saw(0, 5)", x -> x.saw(0, 5), BAD);
        refused("where(-1)", x -> x.where(-1), BAD);
        refused("where(9)", x -> x.where(9), BAD);
        refused("which(-1, 0)", x -> x.which(-1, 0), BAD);
        refused("which(61, 0)", x -> x.which(61, 0), BAD);
        refused("which(0, -1)", x -> x.which(0, -1), BAD);
        refused("which(0, 1000)", x -> x.which(0, 1000), BAD);
        refused("odds(-1, 0, 0)", x -> x.odds(-1, 0, 0), BAD);
        refused("odds(5, 0, 0)", x -> x.odds(5, 0, 0), BAD);
        refused("odds(0, -1, 0)", x -> x.odds(0, -1, 0), BAD);
        refused("odds(0, 5, 0)", x -> x.odds(0, 5, 0), BAD);
        refused("odds(0, 0, -1)", x -> x.odds(0, 0, -1), BAD);
        refused("odds(0, 0, 2)", x -> x.odds(0, 0, 2), BAD);
    }

    private static void kindsAndImages() {
        refused("rate(-1, 0)", x -> x.rate(-1, 0), NO);
        refused("rate(6, 0)", x -> x.rate(6, 0), NO);
        refused("rate(0, -1)", x -> x.rate(0, -1), NO);
        refused("rate(5, 6)", x -> x.rate(5, 6), NO);
        refused("keep(-1)", x -> x.keep(-1), BAD);
        refused("keep(2)", x -> x.keep(2), BAD);
        refused("back(-1)", x -> x.back(-1), BAD);
        refused("back(2)", x -> x.back(2), BAD);
        refused("count(-1)", x -> x.count(-1), BAD);
        refused("count(9)", x -> x.count(9), BAD);
    }

    private static TurnVoice fullRows() {
        TurnVoice x = Towns.told(Towns.SQUARE);
        for (int i = 0; i < 8; i++) {
            x.plans(i % 2 * 2);
        }
        for (int i = 0; i < 5; i++) {
            x.saw(i, i == 0 ? 0 : 1);
        }
        return x;
    }

    private static void full() {
        unchanged("plans() of a ninth", RefusedTest::fullRows, x -> x.plans(1), FULL);
        unchanged("saw() of a sixth", RefusedTest::fullRows, x -> x.saw(6, 2), FULL);
        Supplier<TurnVoice> fullText = () -> Towns.typed("p3;" + " ".repeat(197));
        unchanged("type() of a 201st", fullText, x -> x.type('q'), FULL);
        unchanged("type(256) of a 201st", fullText, x -> x.type(256), BAD);
    }

    /** A new object has two places and no roads. */
    private static void nothingTold() {
        Supplier<TurnVoice> made = TurnVoice::new;
        unchanged("new: road(0, 0)", made, x -> x.road(0, 0), BAD);
        unchanged("new: place(2)", made, x -> x.place(2), BAD);
        unchanged("new: takes(0)", made, x -> x.takes(0), BAD);
        unchanged("new: jams(0, 0)", made, x -> x.jams(0, 0), BAD);
        unchanged("new: shuts(0, 1)", made, x -> x.shuts(0, 1), BAD);
        unchanged("new: undo()", made, x -> x.undo(), STATE);
        unchanged("new: on(0)", made, x -> x.on(0), BAD);
        unchanged("new: plans(0)", made, x -> x.plans(0), BAD);
        unchanged("new: saw(0, 2)", made, x -> x.saw(0, 2), BAD);
        unchanged("new: odds(2, 0, 0)", made, x -> x.odds(2, 0, 0), BAD);
        unchanged("new: rate(0, 0)", made, x -> x.rate(0, 0), NO);
        unchanged("new: back(0)", made, x -> x.back(0), STATE);
        unchanged("new: back(1)", made, x -> x.back(1), STATE);
    }

    private static TurnVoice busyWith(String more) {
        TurnVoice x = busy();
        Towns.add(x, more);
        return x;
    }

    /** The text stays, too: "p3;n7;" stands ahead of each of these. */
    private static void faults() {
        unchanged("town() of 'q'", () -> busyWith("q"), TurnVoice::town, -16);
        unchanged("town() of 'r0 1 9'", () -> busyWith("r0 1 9"), TurnVoice::town, -22);
        unchanged("town() of a p", () -> busyWith("p4;"), TurnVoice::town, -16);
        unchanged("town() of an n", () -> busyWith("n4;"), TurnVoice::town, -16);
        unchanged("town() of 'g1 0;s0 1;'", () -> busyWith("g1 0;s0 1;"), TurnVoice::town, -22);
        unchanged("town() of 'l5;r0 1 8;r1 2 99;'", () -> busyWith("l5;r0 1 8;r1 2 99;"), TurnVoice::town, -31);
        TurnVoice x = busyWith("r0 1 9");
        due.is("town() that ends too early", x.town(), -22);
        due.is("type() behind that", x.type(';'), 13);
        due.is("town() behind that", x.town(), 3);
    }

    private static TurnVoice tired() {
        TurnVoice x = Towns.told("r0 1 60;r0 1 1;n1;");
        x.jams(0, 59);
        for (int i = 0; i < 83; i++) {
            x.takes(0);
        }
        return x;
    }

    /** 83 times 119 and 82 times 1: 9959; a turn to road 1 with a jam of 38 or 39 is worth 40 or 41 then. */
    private static void at9999() {
        due.is("minutes", tired().now(2), 9959);
        Supplier<TurnVoice> just = () -> {
            TurnVoice x = tired();
            x.jams(1, 38);
            return x;
        };
        Supplier<TurnVoice> above = () -> {
            TurnVoice x = tired();
            x.jams(1, 39);
            return x;
        };
        TurnVoice x = just.get();
        due.is("takes() to 9999", x.takes(1), 40);
        due.is("minutes then", x.now(2), 9999);
        unchanged("takes() to 10000", above, y -> y.takes(1), STATE);
        unchanged("takes() to 10079", above, y -> y.takes(0), STATE);
    }

    private static void nothingOfThatIsKnown() {
        Supplier<TurnVoice> undone = () -> {
            TurnVoice x = Towns.told(Towns.SQUARE);
            x.keep(1);
            x.takes(0);
            x.undo();
            return x;
        };
        unchanged("undo() of none", undone, TurnVoice::undo, STATE);
        unchanged("back() of one that was not kept", undone, x -> x.back(0), STATE);
    }

    private static void theFirstOfThese() {
        TurnVoice x = fullRows();
        due.is("plans(6) when full", x.plans(6), BAD);
        due.is("saw(9, 0) when full", x.saw(9, 0), BAD);
        due.is("saw(0, 5) when full", x.saw(0, 5), BAD);
        x.shuts(0, 1);
        due.is("shuts(0, 2) when shut", x.shuts(0, 2), BAD);
        due.is("shuts(6, 0)", x.shuts(6, 0), BAD);
        due.is("back(2), none was kept", x.back(2), BAD);
        x.shuts(2, 1);
        due.is("takes(6), all are shut", x.takes(6), BAD);
        due.is("way(-3), no way", x.way(-3), BAD);
        due.is("worst(2), no way", x.worst(2), BAD);
        due.is("his(2), no way", x.his(2), BAD);
        due.is("cars(21, 0), no way", x.cars(21, 0), BAD);
        due.is("cars(0, 2), no way", x.cars(0, 2), BAD);
        due.is("rate(6, 6)", x.rate(6, 6), NO);
    }

    /** "As things are NOW; nothing is changed." */
    private static void asThingsAreNow() {
        refused("way(-1)", x -> x.way(-1), 3 + 2 + 3 + 21);
        refused("way(-2)", x -> x.way(-2), 2);
        refused("way(1)", x -> x.way(1), 1);
        refused("way(2)", x -> x.way(2), -5);
        refused("round()", TurnVoice::round, 1);
        refused("on(3)", x -> x.on(3), 3 + 64 + 0 + 5 + 3 + 8 + 0 + 21);
        refused("worst(0)", x -> x.worst(0), 1);
        refused("worst(1)", x -> x.worst(1), -5);
        refused("his(0)", x -> x.his(0), 5 + 11 + 11 + 21);
        refused("his(1)", x -> x.his(1), 2);
        refused("cars(20, 0)", x -> x.cars(20, 0), oneByOne());
        refused("cars(20, 1)", x -> x.cars(20, 1), 20 * (29 + 2 * 38));
        refused("tunnel(8)", x -> x.tunnel(8), 25);
        refused("where(1)", x -> x.where(1), 2);
        refused("where(8)", x -> x.where(8), 25);
        refused("which(60, 29)", x -> x.which(60, 29), 60);
        refused("odds(1, 1, 0)", x -> x.odds(1, 1, 0), 1);
        refused("odds(1, 1, 1)", x -> x.odds(1, 1, 1), 2);
        refused("road(3, 2)", x -> x.road(3, 2), 64);
        refused("place(3)", x -> x.place(3), 40);
        refused("now(5)", x -> x.now(5), 7);
        refused("now(1)", x -> x.now(1), 5);
        refused("count(8)", x -> x.count(8), 6);
        refused("trace()", TurnVoice::trace, 1011);
        unchanged("round(), no way", TurnVoice::new, TurnVoice::round, NONE);
    }

    /** Roads 0 and 1 alone lead to 4, as 4 is shut: the k-th car finds both of them 2 k longer. */
    private static int oneByOne() {
        int all = 0;
        for (int k = 0; k < 20; k++) {
            all += 29 + 2 * 2 * k;
        }
        return all;
    }
}
