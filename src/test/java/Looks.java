import java.util.ArrayList;
import java.util.List;

/** All that can be seen of an object, in a row of answers: two objects that look alike are alike. */
final class Looks {
    private final TurnVoice x;
    private final List<String> answers = new ArrayList<>();

    private Looks(TurnVoice x) {
        this.x = x;
    }

    /** By calls that change nothing. */
    static List<String> quiet(TurnVoice x) {
        Looks looks = new Looks(x);
        looks.ask();
        return looks.answers;
    }

    /** By calls that change all: what can be undone, the images, the text, and what is behind them. */
    static List<String> whole(TurnVoice x) {
        Looks looks = new Looks(x);
        looks.ask();
        looks.ask("cars(20, 0)", x.cars(20, 0));
        looks.undoAll();
        looks.goBack(0);
        looks.goBack(1);
        looks.ask("drops()", x.drops());
        looks.ask("forget()", x.forget());
        looks.ask("town()", x.town());
        looks.askNow();
        looks.askCounts();
        looks.ask("clear()", x.clear());
        return looks.answers;
    }

    private void ask(String call, long answer) {
        answers.add(call + " = " + answer);
    }

    private void ask() {
        askCounts();
        askNow();
        int roads = x.count(1);
        for (int r = 0; r < roads; r++) {
            for (int what = 0; what < 6; what++) {
                ask("road(" + r + ", " + what + ")", x.road(r, what));
            }
            ask("on(" + r + ")", x.on(r));
        }
        int places = x.count(0);
        for (int p = 0; p < places; p++) {
            ask("place(" + p + ")", x.place(p));
            ask("odds(" + p + ", 2, 0)", x.odds(p, 2, 0));
        }
        for (int k = -2; k < 4; k++) {
            ask("way(" + k + ")", x.way(k));
        }
        ask("round()", x.round());
        ask("worst(0)", x.worst(0));
        ask("worst(1)", x.worst(1));
        ask("his(0)", x.his(0));
        ask("his(1)", x.his(1));
        for (int k = 1; k <= 8; k++) {
            ask("tunnel(" + k + ")", x.tunnel(k));
            ask("where(" + k + ")", x.where(k));
        }
        ask("which(0, 18)", x.which(0, 18));
        ask("trace()", x.trace());
    }

    private void askCounts() {
        for (int what = 0; what < 9; what++) {
            ask("count(" + what + ")", x.count(what));
        }
    }

    private void askNow() {
        for (int what = 0; what < 6; what++) {
            ask("now(" + what + ")", x.now(what));
        }
    }

    private void askJams() {
        int roads = x.count(1);
        for (int r = 0; r < roads; r++) {
            ask("road(" + r + ", 3)", x.road(r, 3));
        }
    }

    private void undoAll() {
        for (int i = 0; i < 11 && x.now(5) > 0; i++) {
            ask("undo()", x.undo());
            askNow();
            askJams();
        }
        ask("undo() of none", x.undo());
    }

    private void goBack(int image) {
        ask("back(" + image + ")", x.back(image));
        askNow();
        askJams();
    }
}
