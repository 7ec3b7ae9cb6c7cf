import java.math.BigInteger;
import java.util.ArrayDeque;
import java.util.ArrayList;
import java.util.Arrays;
import java.util.Deque;
import java.util.HashMap;
import java.util.HashSet;
import java.util.List;
import java.util.Map;
import java.util.PriorityQueue;
import java.util.Set;
import java.util.TreeSet;

/** The document written a second time, as slowly and plainly as can be, to hold TurnVoice against. */
final class PlainTown {
    private static final int BAD = -1, STATE = -2, FULL = -3, NONE = -9, NO = -1000000;

    record Road(int a, int b, int minutes) {
        boolean at(int p) {
            return a == p || b == p;
        }

        int beyond(int p) {
            return a == p ? b : a;
        }
    }

    record Told(int places, List<Road> roads, Set<List<Integer>> straight, int begin, int goal, int nerves, int load) {
    }

    record Now(int at, int came, int minutes, int turns, Map<Integer, Integer> jams, Set<Integer> shut) {
    }

    record Row(int minutes, int turns, int at, List<Integer> roads) implements Comparable<Row> {
        @Override
        public int compareTo(Row other) {
            if (minutes != other.minutes) {
                return Integer.compare(minutes, other.minutes);
            }
            for (int i = 0; i < Math.min(roads.size(), other.roads.size()); i++) {
                if (!roads.get(i).equals(other.roads.get(i))) {
                    return Integer.compare(roads.get(i), other.roads.get(i));
                }
            }
            return Integer.compare(roads.size(), other.roads.size());
        }
    }

    private record Token(String word, int at) {
        boolean isNumber() {
            return word.matches("0|[1-9][0-9]?");
        }
    }

    private static final class Fault extends Exception {
        private static final long serialVersionUID = 1L;
        final int at;

        Fault(int at) {
            this.at = at;
        }
    }

    private final StringBuilder text = new StringBuilder();
    private Told told;
    private Now now;
    private final Deque<Now> past = new ArrayDeque<>();
    private final Map<Integer, Now> images = new HashMap<>();
    private final List<Integer> planned = new ArrayList<>();
    private final List<int[]> seen = new ArrayList<>();
    private long trace = 0;

    PlainTown() {
        begin(new Told(2, List.of(), Set.of(), 0, 1, 2, 1));
    }

    private void begin(Told anew) {
        told = anew;
        now = new Now(anew.begin, NONE, 0, 0, Map.of(), Set.of());
        past.clear();
        images.clear();
        planned.clear();
        seen.clear();
    }

    int type(int letter) {
        if (letter < 0 || letter > 255) {
            return BAD;
        }
        if (text.length() == 200) {
            return FULL;
        }
        text.append((char) letter);
        return text.length();
    }

    int clear() {
        int before = text.length();
        text.setLength(0);
        return before;
    }

    int town() {
        List<Token> tokens = tokens();
        int[] next = {0};
        int places = 2;
        int[] goal = {0, 1};
        int nerves = 2;
        int load = 1;
        List<Road> roads = new ArrayList<>();
        Set<List<Integer>> straight = new HashSet<>();
        String begun = "";
        try {
            while (!tokens.get(next[0]).word.isEmpty()) {
                Token letter = tokens.get(next[0]++);
                switch (letter.word) {
                    case "p" -> {
                        refuse(!begun.isEmpty(), letter);
                        places = number(tokens, next, 2, 8, -1);
                    }
                    case "r" -> {
                        refuse(roads.size() == 12, letter);
                        int a = number(tokens, next, 0, places - 1, -1);
                        int b = number(tokens, next, 0, places - 1, a);
                        roads.add(new Road(a, b, number(tokens, next, 1, 60, -1)));
                    }
                    case "s" -> {
                        int r = number(tokens, next, 0, roads.size() - 1, -1);
                        int s = number(tokens, next, 0, roads.size() - 1, r);
                        straight.add(List.of(r, s));
                        straight.add(List.of(s, r));
                    }
                    case "g" -> {
                        refuse(begun.contains("g"), letter);
                        goal = new int[] {number(tokens, next, 0, places - 1, -1), number(tokens, next, 0, places - 1, -1)};
                    }
                    case "n" -> {
                        refuse(begun.contains("n"), letter);
                        nerves = number(tokens, next, 0, 20, -1);
                    }
                    case "l" -> {
                        refuse(begun.contains("l"), letter);
                        load = number(tokens, next, 0, 9, -1);
                    }
                    default -> refuse(true, letter);
                }
                begun += letter.word;
                Token end = tokens.get(next[0]++);
                refuse(!end.word.equals(";"), end);
            }
        } catch (Fault fault) {
            return -10 - fault.at;
        }
        begin(new Told(places, roads, straight, goal[0], goal[1], nerves, load));
        text.setLength(0);
        return begun.length();
    }

    private static void refuse(boolean so, Token token) throws Fault {
        if (so) {
            throw new Fault(token.at);
        }
    }

    private static int number(List<Token> tokens, int[] next, int low, int high, int but) throws Fault {
        Token token = tokens.get(next[0]++);
        refuse(!token.isNumber(), token);
        int n = Integer.parseInt(token.word);
        refuse(n < low || n > high || n == but, token);
        return n;
    }

    /** The last one is empty and stands at the text's end. */
    private List<Token> tokens() {
        List<Token> all = new ArrayList<>();
        java.util.regex.Matcher found = java.util.regex.Pattern.compile("[0-9]+|[^ ]", java.util.regex.Pattern.DOTALL).matcher(text);
        while (found.find()) {
            all.add(new Token(found.group(), found.start()));
        }
        all.add(new Token("", text.length()));
        return all;
    }

    private boolean isRoad(int r) {
        return r >= 0 && r < told.roads.size();
    }

    private boolean isPlace(int p) {
        return p >= 0 && p < told.places;
    }

    private int longOf(int r) {
        return told.roads.get(r).minutes + now.jams.getOrDefault(r, 0);
    }

    private boolean openAt(int r, int p) {
        return !now.shut.contains(r) && told.roads.get(r).at(p);
    }

    private boolean turns(int came, int r) {
        return came != NONE && !told.straight.contains(List.of(came, r));
    }

    private static int bits(Iterable<Integer> all) {
        int bits = 0;
        for (int one : all) {
            bits |= 1 << one;
        }
        return bits;
    }

    int road(int r, int what) {
        if (!isRoad(r) || what < 0 || what > 5) {
            return BAD;
        }
        List<Integer> straight = new ArrayList<>();
        for (int s = 0; s < told.roads.size(); s++) {
            if (told.straight.contains(List.of(r, s))) {
                straight.add(s);
            }
        }
        int[] all = {told.roads.get(r).a, told.roads.get(r).b, longOf(r), now.jams.getOrDefault(r, 0),
            now.shut.contains(r) ? 1 : 0, bits(straight)};
        return all[what];
    }

    int place(int p) {
        if (!isPlace(p)) {
            return BAD;
        }
        List<Integer> open = new ArrayList<>();
        for (int r = 0; r < told.roads.size(); r++) {
            if (openAt(r, p)) {
                open.add(r);
            }
        }
        return bits(open);
    }

    int now(int what) {
        int[] all = {now.at, now.came, now.minutes, now.turns, bits(now.shut), past.size()};
        return what < 0 || what >= all.length ? BAD : all[what];
    }

    private void done(Now then) {
        past.push(now);
        if (past.size() > 10) {
            past.removeLast();
        }
        now = then;
    }

    int takes(int r) {
        if (!isRoad(r)) {
            return BAD;
        }
        boolean turn = turns(now.came, r);
        int took = longOf(r) + (turn ? told.nerves : 0);
        if (!openAt(r, now.at) || now.minutes + took > 9999) {
            return STATE;
        }
        done(new Now(told.roads.get(r).beyond(now.at), r, now.minutes + took, now.turns + (turn ? 1 : 0), now.jams, now.shut));
        return took;
    }

    int jams(int r, int n) {
        if (!isRoad(r) || n < 0 || n > 60) {
            return BAD;
        }
        int before = now.jams.getOrDefault(r, 0);
        Map<Integer, Integer> jams = new HashMap<>(now.jams);
        jams.put(r, n);
        done(new Now(now.at, now.came, now.minutes, now.turns, jams, now.shut));
        return before;
    }

    int shuts(int r, int is) {
        if (!isRoad(r) || is < 0 || is > 1) {
            return BAD;
        }
        Set<Integer> shut = new TreeSet<>(now.shut);
        if (is == 1 ? !shut.add(r) : !shut.remove(r)) {
            return STATE;
        }
        done(new Now(now.at, now.came, now.minutes, now.turns, now.jams, shut));
        return shut.size();
    }

    int undo() {
        if (past.isEmpty()) {
            return STATE;
        }
        now = past.pop();
        return past.size();
    }

    /** Rows in the order of their minutes, then road by road: the first that is at the goal is the way. */
    private Row way(int from, int came, int[] longer, Set<Integer> shut) {
        PriorityQueue<Row> rows = new PriorityQueue<>();
        rows.add(new Row(0, 0, from, List.of()));
        Set<List<Integer>> been = new HashSet<>();
        while (!rows.isEmpty()) {
            Row row = rows.remove();
            if (row.at == told.goal) {
                return row;
            }
            int last = row.roads.isEmpty() ? came : row.roads.get(row.roads.size() - 1);
            if (!row.roads.isEmpty() && !been.add(List.of(row.at, last))) {
                continue;
            }
            for (int r = 0; r < told.roads.size(); r++) {
                if (!shut.contains(r) && told.roads.get(r).at(row.at)) {
                    List<Integer> roads = new ArrayList<>(row.roads);
                    roads.add(r);
                    boolean turn = turns(last, r);
                    int minutes = row.minutes + longOf(r) + longer[r] + (turn ? told.nerves : 0);
                    rows.add(new Row(minutes, row.turns + (turn ? 1 : 0), told.roads.get(r).beyond(row.at), roads));
                }
            }
        }
        return null;
    }

    private Row wayFrom(int from, int came) {
        return way(from, came, new int[12], now.shut);
    }

    int way(int k) {
        if (k < -2) {
            return BAD;
        }
        Row row = wayFrom(now.at, now.came);
        if (row == null) {
            return NONE;
        }
        if (k < 0) {
            return k == -1 ? row.minutes : row.turns;
        }
        return k < row.roads.size() ? row.roads.get(k) : -5;
    }

    int round() {
        Row row = wayFrom(now.at, now.came);
        if (row == null || row.roads.isEmpty()) {
            return NONE;
        }
        return row.roads.get(0) == now.came ? 1 : 0;
    }

    int on(int r) {
        if (!isRoad(r) || !openAt(r, now.at)) {
            return BAD;
        }
        Row row = wayFrom(told.roads.get(r).beyond(now.at), r);
        return row == null ? NONE : longOf(r) + (turns(now.came, r) ? told.nerves : 0) + row.minutes;
    }

    int worst(int what) {
        if (what < 0 || what > 1) {
            return BAD;
        }
        if (wayFrom(now.at, now.came) == null) {
            return NONE;
        }
        int[] worst = {NONE, NONE};
        for (int r = told.roads.size() - 1; r >= 0; r--) {
            if (!now.shut.contains(r)) {
                Set<Integer> shut = new HashSet<>(now.shut);
                shut.add(r);
                Row row = way(now.at, now.came, new int[12], shut);
                int minutes = row == null ? Integer.MAX_VALUE : row.minutes;
                if (minutes >= worst[1]) {
                    worst = new int[] {r, minutes};
                }
            }
        }
        return worst[what] == Integer.MAX_VALUE ? -5 : worst[what];
    }

    int plans(int r) {
        if (!isRoad(r)) {
            return BAD;
        }
        if (planned.size() == 8) {
            return FULL;
        }
        planned.add(r);
        return planned.size();
    }

    int drops() {
        int before = planned.size();
        planned.clear();
        return before;
    }

    int his(int what) {
        if (what < 0 || what > 1) {
            return BAD;
        }
        int at = now.at;
        int came = now.came;
        int minutes = 0;
        int taken = 0;
        for (int r : planned) {
            if (!openAt(r, at)) {
                break;
            }
            minutes += longOf(r) + (turns(came, r) ? told.nerves : 0);
            at = told.roads.get(r).beyond(at);
            came = r;
            taken++;
        }
        Row row = wayFrom(at, came);
        if (what == 1) {
            return taken;
        }
        return row == null ? NONE : minutes + row.minutes;
    }

    int cars(int n, int what) {
        if (n < 0 || n > 20 || what < 0 || what > 1) {
            return BAD;
        }
        Row first = wayFrom(told.begin, NONE);
        if (first == null) {
            return NONE;
        }
        int all = 0;
        int[] longer = new int[12];
        for (int car = 0; car < n && what == 0; car++) {
            Row row = way(told.begin, NONE, longer, now.shut);
            all += row.minutes;
            for (int r : row.roads) {
                longer[r] += told.load;
            }
        }
        for (int car = 0; car < n && what == 1; car++) {
            all += first.minutes;
            for (int mine : first.roads) {
                for (int other = 0; other < n; other++) {
                    for (int its : first.roads) {
                        all += other != car && its == mine ? told.load : 0;
                    }
                }
            }
        }
        return all;
    }

    /** Every row of k open roads from here, as the places it goes by. */
    private List<List<Integer>> rows(int k) {
        Set<List<Integer>> rows = new HashSet<>();
        rows.add(List.of(now.at));
        for (int i = 0; i < k; i++) {
            Set<List<Integer>> longer = new HashSet<>();
            for (List<Integer> row : rows) {
                int at = row.get(row.size() - 1);
                for (int r = 0; r < told.roads.size(); r++) {
                    if (openAt(r, at)) {
                        List<Integer> one = new ArrayList<>(row);
                        one.add(told.roads.get(r).beyond(at));
                        longer.add(one);
                    }
                }
            }
            rows = longer;
        }
        return new ArrayList<>(rows);
    }

    int tunnel(int k) {
        if (k < 0 || k > 8) {
            return BAD;
        }
        List<Integer> ends = new ArrayList<>();
        for (List<Integer> row : rows(k)) {
            ends.add(row.get(k));
        }
        return bits(ends);
    }

    int saw(int k, int p) {
        if (k < 0 || k > 8 || !isPlace(p)) {
            return BAD;
        }
        if (seen.size() == 5) {
            return FULL;
        }
        seen.add(new int[] {k, p});
        return seen.size();
    }

    int forget() {
        int before = seen.size();
        seen.clear();
        return before;
    }

    int where(int k) {
        if (k < 0 || k > 8) {
            return BAD;
        }
        List<Integer> ends = new ArrayList<>();
        for (List<Integer> row : rows(k)) {
            if (seen.stream().allMatch(s -> s[0] > k || row.get(s[0]) == s[1])) {
                ends.add(row.get(k));
            }
        }
        return bits(ends);
    }

    int which(int j, int v) {
        if (j < 0 || j > 60 || v < 0 || v > 999) {
            return BAD;
        }
        List<Integer> roads = new ArrayList<>();
        for (int r = 0; r < told.roads.size(); r++) {
            int[] longer = new int[12];
            longer[r] = j;
            Row row = way(told.begin, NONE, longer, now.shut);
            if (row != null && row.minutes == v) {
                roads.add(r);
            }
        }
        return bits(roads);
    }

    long odds(int p, int n, int what) {
        if (!isPlace(p) || n < 0 || n > 4 || what < 0 || what > 1) {
            return BAD;
        }
        BigInteger[] odds = oddsFrom(now.at, p, n);
        return odds[what].longValueExact();
    }

    private BigInteger[] oddsFrom(int at, int p, int n) {
        if (n == 0) {
            return new BigInteger[] {at == p ? BigInteger.ONE : BigInteger.ZERO, BigInteger.ONE};
        }
        List<Integer> open = new ArrayList<>();
        for (int r = 0; r < told.roads.size(); r++) {
            if (openAt(r, at)) {
                open.add(told.roads.get(r).beyond(at));
            }
        }
        if (open.isEmpty()) {
            return oddsFrom(at, p, n - 1);
        }
        BigInteger upper = BigInteger.ZERO;
        BigInteger lower = BigInteger.ONE;
        for (int next : open) {
            BigInteger[] one = oddsFrom(next, p, n - 1);
            upper = upper.multiply(one[1]).add(one[0].multiply(lower));
            lower = lower.multiply(one[1]);
            BigInteger shared = upper.gcd(lower);
            upper = upper.divide(shared);
            lower = lower.divide(shared);
        }
        lower = lower.multiply(BigInteger.valueOf(open.size()));
        BigInteger shared = upper.gcd(lower);
        return new BigInteger[] {upper.divide(shared), lower.divide(shared)};
    }

    int rate(int kind, int r) {
        if (kind < 0 || kind > 5 || !isRoad(r)) {
            return NO;
        }
        int jam = now.jams.getOrDefault(r, 0);
        int shut = now.shut.size();
        trace += new long[] {1, 11, 101, 1011, 10101, 100001}[kind];
        return new int[] {longOf(r), longOf(r) + jam, longOf(r) - shut, 2 * (longOf(r) + jam),
            longOf(r) - shut + r, longOf(r) + now.turns}[kind];
    }

    int keep(int image) {
        if (image != 0 && image != 1) {
            return BAD;
        }
        images.put(image, now);
        return now.minutes;
    }

    int back(int image) {
        if (image != 0 && image != 1) {
            return BAD;
        }
        if (!images.containsKey(image)) {
            return STATE;
        }
        now = images.get(image);
        past.clear();
        return now.minutes;
    }

    int count(int what) {
        int[] all = {told.places, told.roads.size(), told.begin, told.goal, told.nerves, told.load, planned.size(),
            seen.size(), text.length()};
        return what < 0 || what >= all.length ? BAD : all[what];
    }

    long trace() {
        return trace;
    }

    @Override
    public String toString() {
        return told + " " + now + " planned " + planned + " seen " + Arrays.deepToString(seen.toArray());
    }
}
