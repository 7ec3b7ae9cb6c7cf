import java.util.Random;

/** Random runs of calls, the same ones on TurnVoice and on PlainTown: every answer must be the same. */
public final class PlainModelTest {
    private static final int RUNS = 3000;
    private static final int CALLS = 120;
    private static final int[] WILD = {Integer.MIN_VALUE, -1000, -10, -9, -3, -2, -1, 61, 100, 256, 1000, Integer.MAX_VALUE};
    private static final Due due = new Due();

    private final Random chance;
    private final TurnVoice x = new TurnVoice();
    private final PlainTown plain = new PlainTown();
    private String run;

    private PlainModelTest(int seed) {
        chance = new Random(seed);
        run = "run " + seed;
    }

    public static void main(String[] args) {
        for (int seed = 0; seed < RUNS; seed++) {
            PlainModelTest test = new PlainModelTest(seed);
            if (seed % 10 != 0) {
                test.tell();
            }
            for (int i = 0; i < CALLS; i++) {
                test.call();
            }
        }
        due.end();
    }

    private int upTo(int most) {
        return chance.nextInt(most + 1);
    }

    /** Mostly 0 .. most, sometimes just beyond, seldom far away. */
    private int about(int most) {
        int die = upTo(39);
        if (die == 0) {
            return WILD[upTo(WILD.length - 1)];
        }
        return die == 1 ? most + 1 : upTo(most);
    }

    private int aRoad() {
        return about(Math.max(0, plain.count(1) - 1));
    }

    private int aPlace() {
        return about(plain.count(0) - 1);
    }

    private void is(String call, long got, long want) {
        due.is(run + ": " + call, got, want);
    }

    private void tell() {
        String text = townText();
        if (upTo(5) == 0) {
            text = spoilt(text);
        }
        for (int i = 0; i < text.length(); i++) {
            is("type " + text.charAt(i), x.type(text.charAt(i)), plain.type(text.charAt(i)));
        }
        is("town() of " + text, x.town(), plain.town());
        if (upTo(3) > 0) {
            is("clear()", x.clear(), plain.clear());
        }
    }

    private String townText() {
        StringBuilder text = new StringBuilder();
        int places = 2;
        if (upTo(9) > 0) {
            places = 2 + upTo(6);
            text.append("p" + places + ";");
        }
        int roads = upTo(12);
        int mostMinutes = upTo(2) == 0 ? 60 : 1 + upTo(5);
        for (int r = 0; r < roads; r++) {
            int a = upTo(places - 1);
            int b = (a + 1 + upTo(places - 2)) % places;
            text.append("r" + a + " " + b + " " + (1 + upTo(mostMinutes - 1)) + ";");
            if (r > 0 && upTo(2) == 0) {
                text.append("s" + r + " " + upTo(r - 1) + ";");
            }
        }
        for (int i = upTo(8); i > 0 && roads > 1; i--) {
            int r = upTo(roads - 1);
            text.append("s" + r + " " + (r + 1 + upTo(roads - 2)) % roads + ";");
        }
        if (upTo(2) > 0) {
            text.append("g" + upTo(places - 1) + " " + upTo(places - 1) + ";");
        }
        if (upTo(2) > 0) {
            text.append("n" + upTo(20) + ";");
        }
        if (upTo(2) > 0) {
            text.append("l" + upTo(9) + ";");
        }
        return text.length() > 200 ? text.substring(0, text.lastIndexOf(";", 199) + 1) : text.toString();
    }

    private String spoilt(String text) {
        StringBuilder spoilt = new StringBuilder(text);
        String letters = "prsgnl;0123456789  xA" + (char) 0 + (char) 255;
        for (int i = 1 + upTo(2); i > 0; i--) {
            int at = upTo(spoilt.length());
            char letter = letters.charAt(upTo(letters.length() - 1));
            int die = upTo(2);
            if (die == 0 || at == spoilt.length()) {
                spoilt.insert(at, letter);
            } else if (die == 1) {
                spoilt.setCharAt(at, letter);
            } else {
                spoilt.deleteCharAt(at);
            }
        }
        return spoilt.toString();
    }

    private void call() {
        switch (upTo(9)) {
            case 0, 1, 2 -> doSomething();
            case 3, 4 -> askTheWay();
            case 5 -> planOrSend();
            case 6 -> askTheTunnel();
            case 7 -> rateOrKeep();
            case 8 -> askTheState();
            default -> seldom();
        }
    }

    private void doSomething() {
        int r = aRoad();
        switch (upTo(6)) {
            case 0, 1, 2 -> takeOneHere();
            case 3 -> is("takes(" + r + ")", x.takes(r), plain.takes(r));
            case 4 -> {
                int n = about(upTo(1) == 0 ? 60 : 5);
                is("jams(" + r + ", " + n + ")", x.jams(r, n), plain.jams(r, n));
            }
            case 5 -> {
                int is = about(1);
                is("shuts(" + r + ", " + is + ")", x.shuts(r, is), plain.shuts(r, is));
            }
            default -> is("undo()", x.undo(), plain.undo());
        }
    }

    private void takeOneHere() {
        int here = plain.place(plain.now(0));
        for (int r = upTo(11), i = 0; i < 12; r = (r + 1) % 12, i++) {
            if ((here >> r & 1) != 0) {
                is("takes(" + r + ")", x.takes(r), plain.takes(r));
                return;
            }
        }
    }

    private void askTheWay() {
        int r = aRoad();
        int what = about(1);
        int k = upTo(9) == 0 ? about(30) : upTo(11) - 3;
        switch (upTo(4)) {
            case 0, 1 -> is("way(" + k + ")", x.way(k), plain.way(k));
            case 2 -> is("round()", x.round(), plain.round());
            case 3 -> is("on(" + r + ")", x.on(r), plain.on(r));
            default -> is("worst(" + what + ")", x.worst(what), plain.worst(what));
        }
    }

    private void planOrSend() {
        int r = aRoad();
        int what = about(1);
        int n = about(20);
        switch (upTo(9)) {
            case 0, 1, 2, 3 -> is("plans(" + r + ")", x.plans(r), plain.plans(r));
            case 4 -> is("drops()", x.drops(), plain.drops());
            case 5, 6, 7 -> is("his(" + what + ")", x.his(what), plain.his(what));
            default -> is("cars(" + n + ", " + what + ")", x.cars(n, what), plain.cars(n, what));
        }
    }

    private void askTheTunnel() {
        int k = about(8);
        int few = Math.min(k, 5);
        int p = aPlace();
        int n = about(4);
        int what = about(1);
        switch (upTo(9)) {
            case 0 -> is("tunnel(" + few + ")", x.tunnel(few), plain.tunnel(few));
            case 1, 2 -> is("saw(" + k + ", " + p + ")", x.saw(k, p), plain.saw(k, p));
            case 3 -> is("where(" + few + ")", x.where(few), plain.where(few));
            case 4 -> is("where(" + n + ")", x.where(n), plain.where(n));
            case 5 -> is("forget()", x.forget(), plain.forget());
            case 6, 7 -> askWhich();
            default -> is("odds(" + p + ", " + n + ", " + what + ")", x.odds(p, n, what), plain.odds(p, n, what));
        }
    }

    private void askWhich() {
        int j = about(upTo(1) == 0 ? 60 : 6);
        int way = plain.cars(1, 0);
        int v = way < 0 || upTo(4) == 0 ? about(999) : way + upTo(Math.max(0, Math.min(j, 60)));
        is("which(" + j + ", " + v + ")", x.which(j, v), plain.which(j, v));
    }

    private void rateOrKeep() {
        int kind = about(5);
        int r = aRoad();
        int image = about(1);
        switch (upTo(5)) {
            case 0, 1, 2 -> is("rate(" + kind + ", " + r + ")", x.rate(kind, r), plain.rate(kind, r));
            case 3 -> is("keep(" + image + ")", x.keep(image), plain.keep(image));
            case 4 -> is("back(" + image + ")", x.back(image), plain.back(image));
            default -> is("trace()", x.trace(), plain.trace());
        }
    }

    private void askTheState() {
        int r = aRoad();
        int what = about(8);
        int p = aPlace();
        switch (upTo(3)) {
            case 0 -> is("road(" + r + ", " + what + ")", x.road(r, what), plain.road(r, what));
            case 1 -> is("place(" + p + ")", x.place(p), plain.place(p));
            case 2 -> is("now(" + what + ")", x.now(what), plain.now(what));
            default -> is("count(" + what + ")", x.count(what), plain.count(what));
        }
    }

    private void seldom() {
        int letter = about(255);
        switch (upTo(19)) {
            case 0 -> tell();
            case 1 -> is("clear()", x.clear(), plain.clear());
            case 2 -> is("town()", x.town(), plain.town());
            case 3, 4 -> is("type(" + letter + ")", x.type(letter), plain.type(letter));
            default -> askTheState();
        }
    }
}
