/** The section "Terms" and promises 2 to 4: for each bound of a text the last that may stand, and the first that may not. */
public final class TextBoundsTest {
    private static final int FULL = TurnVoice.FULL;
    private static final int PLACES = 0, ROADS = 1, BEGIN = 2, GOAL = 3, NERVES = 4, LOAD = 5, LETTERS = 8;
    private static final Due due = new Due();

    public static void main(String[] args) {
        letters();
        emptyText();
        places();
        roads();
        twoUnlikePlaces();
        minutes();
        straight();
        straightToldAgain();
        beginAndGoal();
        nerves();
        load();
        onceAtMost();
        placesFirstOfAll();
        numbers();
        otherLetters();
        blanks();
        everyTokenEverywhere();
        endsTooEarly();
        theFirstFault();
        atFirst();
        toldAnew();
        due.end();
    }

    /** town() of a text on a new object answers its items, and a count is as told. */
    private static void stands(String text, int items, int what, int count) {
        TurnVoice x = Towns.typed(text);
        due.is("town() of '" + text + "'", x.town(), items);
        due.is("count(" + what + ") behind '" + text + "'", x.count(what), count);
        due.is("letters behind '" + text + "'", x.count(LETTERS), 0);
    }

    /** The fault lies at a place, and behind it all is as it was, THE TEXT too. */
    private static void fault(String text, int place) {
        TurnVoice x = Towns.told("p3;r0 1 5;r1 2 6;s0 1;g2 0;n5;l6;");
        x.takes(1);
        Towns.add(x, text);
        due.is("town() of '" + text + "'", x.town(), -10 - place);
        int[] counts = {3, 2, 2, 0, 5, 6, 0, 0, text.length()};
        for (int what = 0; what < counts.length; what++) {
            due.is("count(" + what + ") behind the fault of '" + text + "'", x.count(what), counts[what]);
        }
        due.is("now(0) behind the fault of '" + text + "'", x.now(0), 1);
        due.is("road(1, 2) behind the fault of '" + text + "'", x.road(1, 2), 6);
        due.is("road(1, 5) behind the fault of '" + text + "'", x.road(1, 5), 1);
        due.is("town() again of '" + text + "'", x.town(), -10 - place);
        due.is("clear() behind the fault of '" + text + "'", x.clear(), text.length());
    }

    /** 200 letters at most. */
    private static void letters() {
        String text = Towns.TWELVE + "s0 1;".repeat(23);
        TurnVoice x = Towns.typed(text);
        due.is("199 letters", x.count(LETTERS), 199);
        due.is("type() the 200th", x.type(' '), 200);
        due.is("type() a 201st", x.type(' '), FULL);
        due.is("town() of 200 letters", x.town(), 35);
        due.is("type() behind that", x.type(' '), 1);
        TurnVoice y = Towns.typed(" ".repeat(200));
        due.is("clear() of 200 letters", y.clear(), 200);
        due.is("type() behind clear()", y.type('p'), 1);
        fault(" ".repeat(199) + "x", 199);
        fault(" ".repeat(199) + "p", 200);
        fault(" ".repeat(198) + "p9", 199);
        stands(" ".repeat(197) + "p8;", 1, PLACES, 8);
        TurnVoice z = Towns.typed(" ".repeat(197) + "p2;");
        z.type('x');
        due.is("a letter that was refused is not read", z.town(), 1);
    }

    private static void emptyText() {
        TurnVoice x = Towns.told(Towns.SQUARE);
        due.is("clear() of an empty text", x.clear(), 0);
        due.is("PLACES behind clear()", x.count(PLACES), 5);
        due.is("town() of an empty text", x.town(), 0);
        due.is("PLACES behind town() of nothing", x.count(PLACES), 2);
        due.is("ROADS behind town() of nothing", x.count(ROADS), 0);
        stands("", 0, PLACES, 2);
        stands(" ", 0, PLACES, 2);
    }

    /** 2 .. 8; 2 at first. */
    private static void places() {
        fault("p0;", 1);
        fault("p1;", 1);
        for (int n = 2; n <= 8; n++) {
            stands("p" + n + ";", 1, PLACES, n);
        }
        fault("p9;", 1);
        fault("p10;", 1);
        fault("p99;", 1);
        TurnVoice x = Towns.told("p8;");
        due.is("place(7) of 8", x.place(7), 0);
        due.is("place(8) of 8", x.place(8), TurnVoice.BAD);
    }

    /** 12 at most. */
    private static void roads() {
        for (int n = 0; n <= 12; n++) {
            stands("r0 1 1;".repeat(n), n, ROADS, n);
        }
        fault("r0 1 1;".repeat(13), 84);
        fault(Towns.TWELVE + "n3;r", 87);
        stands(Towns.TWELVE + "s11 10;", 13, ROADS, 12);
    }

    /** A ROAD is between two unlike PLACES that there are. */
    private static void twoUnlikePlaces() {
        stands("p8;r0 7 1;r7 0 1;r7 6 1;", 4, ROADS, 3);
        stands("r0 1 1;r1 0 1;", 2, ROADS, 2);
        fault("p8;r8 0 1;", 4);
        fault("p8;r0 8 1;", 6);
        fault("p2;r2 0 1;", 4);
        fault("r0 2 1;", 3);
        fault("r0 0 1;", 3);
        fault("p8;r7 7 1;", 6);
        fault("p3;r1 1 1;", 6);
        TurnVoice x = Towns.told("p8;r7 0 1;");
        due.is("its first PLACE as told", x.road(0, 0), 7);
        due.is("its second PLACE as told", x.road(0, 1), 0);
    }

    /** 1 .. 60. */
    private static void minutes() {
        fault("r0 1 0;", 5);
        fault("r0 1 61;", 5);
        fault("r0 1 99;", 5);
        int[] may = {1, 2, 9, 10, 59, 60};
        for (int m : may) {
            due.is("LONG of 'r0 1 " + m + ";'", Towns.told("r0 1 " + m + ";").road(0, 2), m);
        }
    }

    /** Two unlike ROADS that were told ahead. */
    private static void straight() {
        fault("s0 1;", 1);
        fault("r0 1 1;s0 0;", 10);
        fault("r0 1 1;s0 1;", 10);
        fault("r0 1 1;s1 0;", 8);
        fault("r0 1 1;s0 1;r1 0 1;", 10);
        fault("r0 1 1;r0 1 1;s1 1;", 17);
        fault("r0 1 1;r0 1 1;s0 2;", 17);
        fault("r0 1 1;r0 1 1;s2 0;", 15);
        fault(Towns.TWELVE + "s0 12;", 87);
        fault(Towns.TWELVE + "s12 0;", 85);
        fault(Towns.TWELVE + "s11 11;", 88);
        TurnVoice x = Towns.told(Towns.TWELVE + "s0 11;s11 10;");
        due.is("STRAIGHT with 11", x.road(11, 5), 1 | 1 << 10);
        due.is("STRAIGHT with 0", x.road(0, 5), 1 << 11);
        due.is("STRAIGHT with 10", x.road(10, 5), 1 << 11);
        due.is("STRAIGHT with none", x.road(5, 5), 0);
    }

    private static void straightToldAgain() {
        TurnVoice x = Towns.typed("r0 1 1;r0 1 1;s0 1;s0 1;s1 0;");
        due.is("told again", x.town(), 5);
        due.is("as it is", x.road(0, 5), 2);
        due.is("as it is", x.road(1, 5), 1);
    }

    /** PLACES; 0 and 1 at first; they may be one and the same. */
    private static void beginAndGoal() {
        fault("g2 0;", 1);
        fault("g0 2;", 3);
        fault("p8;g8 0;", 4);
        fault("p8;g0 8;", 6);
        stands("p8;g7 0;", 2, BEGIN, 7);
        stands("p8;g0 7;", 2, GOAL, 7);
        stands("g1 1;", 1, BEGIN, 1);
        stands("g0 0;", 1, GOAL, 0);
        TurnVoice x = Towns.told("p8;g7 7;");
        due.is("HE is at BEGIN", x.now(0), 7);
        due.is("at GOAL", x.way(-1), 0);
    }

    /** 0 .. 20; 2 at first. */
    private static void nerves() {
        for (int n = 0; n <= 20; n++) {
            stands("n" + n + ";", 1, NERVES, n);
        }
        fault("n21;", 1);
        fault("n99;", 1);
    }

    /** 0 .. 9; 1 at first. */
    private static void load() {
        for (int n = 0; n <= 9; n++) {
            stands("l" + n + ";", 1, LOAD, n);
        }
        fault("l10;", 1);
        fault("l99;", 1);
    }

    private static void onceAtMost() {
        fault("g0 1;g0 1;", 5);
        fault("n2;n2;", 3);
        fault("l1;l1;", 3);
        fault("g0 1;n2;l1;r0 1 1;g", 18);
        fault("g0 1;n2;l1;r0 1 1;n", 18);
        fault("g0 1;n2;l1;r0 1 1;l", 18);
        stands("l2;n3;g1 0;", 3, LOAD, 2);
    }

    private static void placesFirstOfAll() {
        String[] ahead = {"p3;", "r0 1 1;", "g0 1;", "n2;", "l1;"};
        for (String item : ahead) {
            fault(item + "p3;", item.length());
            fault(item + " p", item.length() + 1);
        }
        fault("r0 1 1;r0 1 1;s0 1;p3;", 19);
        stands("   p3;", 1, PLACES, 3);
    }

    /** A NUMBER above 99, or with a 0 ahead of others. */
    private static void numbers() {
        fault("n100;", 1);
        fault("n 100;", 2);
        fault("n00;", 1);
        fault("n 01;", 2);
        fault("n020;", 1);
        fault("n000;", 1);
        fault("r00 1 1;", 1);
        fault("r0 01 1;", 3);
        fault("r0 1 060;", 5);
        fault("n4294967296;", 1);
        fault("n4294967298;", 1);
        fault("n18446744073709551618;", 1);
        fault("n1" + "0".repeat(150), 1);
        fault("r0 1 257;", 5);
        stands("n0;", 1, NERVES, 0);
        fault("n1 2;", 3);
        fault("r0 11;", 3);
        fault("r01 1;", 1);
    }

    /** Only p, r, s, g, n, l, digits, ; and blanks may stand in a text at all. */
    private static void otherLetters() {
        for (int letter = 0; letter <= 255; letter++) {
            boolean mayBegin = "rsgl".indexOf(letter) >= 0;
            int behindItem = letter == ' ' ? 1 : mayBegin ? -14 : -13;
            TurnVoice x = Towns.typed("n3;" + (char) letter);
            due.is("town() of 'n3;' and " + letter, x.town(), behindItem);
            boolean isDigit = letter >= '0' && letter <= '9';
            int inNumber = letter == ' ' ? 1 : letter == ';' ? -13 : isDigit ? -11 : -12;
            TurnVoice y = Towns.typed("n3" + (char) letter + ";");
            due.is("town() of 'n3', " + letter + " and ';'", y.town(), inNumber);
        }
    }

    private static void blanks() {
        stands("  n  20  ;  ", 1, NERVES, 20);
        stands("r0 1 1;r 1  0   60 ;s0 1;", 3, ROADS, 2);
        stands("r0   1   1;", 1, ROADS, 1);
        fault("n2 0;", 3);
        fault("n\t2;", 1);
        fault("n" + (char) 160 + "2;", 1);
        fault("\n", 0);
    }

    /** Of each item: one token too few, one too many, and a wrong one in each place. */
    private static void everyTokenEverywhere() {
        String[] items = {"p3;", "r0 1 5;", "s0 1;", "g0 1;", "n5;", "l5;"};
        for (String item : items) {
            String ahead = item.charAt(0) == 's' ? "r0 1 1;r0 1 1;" : "";
            for (int i = 0; i < item.length(); i++) {
                if (item.charAt(i) != ' ') {
                    fault(ahead + item.substring(0, i) + "x", ahead.length() + i);
                    fault(ahead + item.substring(0, i) + (item.charAt(i) == ';' ? " 1;" : " ;"), ahead.length() + i + 1);
                    fault(ahead + item.substring(0, i) + " p", ahead.length() + i + (isAtStart(i, ahead) ? 2 : 1));
                }
            }
        }
    }

    /** There a p may stand, and the text ends behind it. */
    private static boolean isAtStart(int i, String ahead) {
        return i == 0 && ahead.isEmpty();
    }

    /** Every beginning of a text: whole items stand, anything else ends too early. */
    private static void endsTooEarly() {
        String text = "p8;r 0 7 60;r1 2  20;s 0 1 ;g 7 5;n 20;l 9 ; ";
        int items = 0;
        boolean within = false;
        for (int length = 0; length <= text.length(); length++) {
            if (length > 0 && text.charAt(length - 1) == ';') {
                items++;
                within = false;
            } else if (length > 0 && text.charAt(length - 1) != ' ') {
                within = true;
            }
            String begun = text.substring(0, length);
            if (within) {
                fault(begun, length);
            } else {
                due.is("town() of '" + begun + "'", Towns.typed(begun).town(), items);
            }
        }
        due.is("items of '" + text + "'", items, 7);
    }

    private static void theFirstFault() {
        fault("p9;x", 1);
        fault("n21;n21;", 1);
        fault("r0 0 0;", 3);
        fault("r5 5 99;", 1);
        fault("s0 0;", 1);
        fault("g9 9;", 1);
        fault("r0 1 1;q 100 00;", 7);
    }

    /** What is not told is as at first, whatever the text ahead of it told. */
    private static void atFirst() {
        TurnVoice x = Towns.told("p8;g7 6;n20;l9;r0 7 60;");
        Towns.add(x, "r0 1 5;");
        due.is("town() anew", x.town(), 1);
        int[] counts = {2, 1, 0, 1, 2, 1, 0, 0, 0};
        for (int what = 0; what < counts.length; what++) {
            due.is("count(" + what + ") anew", x.count(what), counts[what]);
        }
    }

    /** As told, at BEGIN, no JAMS, all open, nothing planned, SEEN, IMAGES are gone, nothing can be UNDONE. */
    private static void toldAnew() {
        TurnVoice x = Towns.told("p3;r0 1 5;r1 2 6;g1 2;");
        x.takes(0);
        x.takes(0);
        x.jams(1, 60);
        x.shuts(0, 1);
        x.plans(1);
        x.saw(1, 2);
        x.keep(0);
        x.keep(1);
        Towns.add(x, "p3;r0 1 5;r1 2 6;g2 0;");
        due.is("town() anew", x.town(), 4);
        int[] now = {2, TurnVoice.NONE, 0, 0, 0, 0};
        for (int what = 0; what < now.length; what++) {
            due.is("now(" + what + ") anew", x.now(what), now[what]);
        }
        due.is("JAM anew", x.road(1, 3), 0);
        due.is("open anew", x.road(0, 4), 0);
        due.is("planned anew", x.count(6), 0);
        due.is("SEEN anew", x.count(7), 0);
        due.is("drops() anew", x.drops(), 0);
        due.is("forget() anew", x.forget(), 0);
        due.is("undo() anew", x.undo(), TurnVoice.STATE);
        due.is("back(0) anew", x.back(0), TurnVoice.STATE);
        due.is("back(1) anew", x.back(1), TurnVoice.STATE);
        due.is("keep(0) anew", x.keep(0), 0);
        due.is("back(0) of the new one", x.back(0), 0);
        due.is("back(1) still", x.back(1), TurnVoice.STATE);
    }
}
