/**
 * A town of roads, a voice that tells the quickest way through it, and a driver who goes as he likes.
 * Every row is made in a constructor and used again, so that no call makes an object.
 */
public final class TurnVoice {
    public static final int BAD = -1, STATE = -2, FULL = -3, NONE = -9;
    public static final int NO = -1000000;

    /** What way() answers behind its last road, and worst() where no way is left. */
    private static final int NOT_THERE = -5;
    private static final int FAULT_BASE = -10;

    private static final int MOST_LETTERS = 200;
    private static final int MOST_PLACES = 8;
    private static final int MOST_ROADS = 12;
    private static final int LONGEST_ROAD = 60;
    private static final int MOST_NERVES = 20;
    private static final int MOST_LOAD = 9;
    private static final int MOST_MINUTES = 9999;
    private static final int MOST_JAM = 60;
    private static final int MOST_UNDONE = 10;
    private static final int MOST_PLANNED = 8;
    private static final int MOST_CARS = 20;
    private static final int MOST_STEPS = 8;
    private static final int MOST_SEEN = 5;
    private static final int MOST_VALUE = 999;
    private static final int MOST_ODDS_STEPS = 4;
    private static final int IMAGES = 2;

    private static final int ROAD = 0, LANE = 1, FORD = 2, VILLAGE = 3, TUNNEL = 4, BRIDGE = 5;
    /** The kind above each kind; ROAD has none. */
    private static final int[] ABOVE = {NONE, ROAD, ROAD, LANE, FORD, ROAD};
    private static final int[] TRACE_MARK = {1, 10, 100, 1000, 10000, 100000};

    private final Reader reader = new Reader();
    private Town map = new Town();
    /** A text is read into this one, so that a faulty text leaves the map as it is. */
    private Town draft = new Town();
    private final Present present = new Present();
    private final Past past = new Past();
    private final Voice voice = new Voice();
    private final Odds chances = new Odds();

    private final int[] planned = new int[MOST_PLANNED];
    private int plannedCount;
    private final int[] seenSteps = new int[MOST_SEEN];
    private final int[] seenPlaces = new int[MOST_SEEN];
    private int seenCount;
    private final Present[] images = new Present[IMAGES];
    private final boolean[] imageKept = new boolean[IMAGES];
    private long traceSum;

    public TurnVoice() {
        for (int i = 0; i < IMAGES; i++) {
            images[i] = new Present();
        }
        present.startAt(map.begin);
    }

    // ---- the town

    public int type(int letter) {
        if (!isWithin(letter, 0, 255)) {
            return BAD;
        }
        return reader.add(letter) ? reader.size() : FULL;
    }

    public int clear() {
        return reader.empty();
    }

    public int town() {
        int items = reader.read(draft);
        if (items < 0) {
            return items;
        }
        Town told = draft;
        draft = map;
        map = told;
        reader.empty();
        beginAnew();
        return items;
    }

    public int road(int r, int what) {
        if (!map.hasRoad(r)) {
            return BAD;
        }
        switch (what) {
            case 0: return map.from[r];
            case 1: return map.to[r];
            case 2: return longOf(r);
            case 3: return present.jam[r];
            case 4: return present.isShut(r) ? 1 : 0;
            case 5: return map.straight[r];
            default: return BAD;
        }
    }

    public int place(int p) {
        return map.hasPlace(p) ? map.roadsAt(p) & openRoads() : BAD;
    }

    public int now(int what) {
        switch (what) {
            case 0: return present.at;
            case 1: return present.came;
            case 2: return present.minutes;
            case 3: return present.turns;
            case 4: return present.shut;
            case 5: return past.size();
            default: return BAD;
        }
    }

    // ---- what is done

    public int takes(int r) {
        if (!map.hasRoad(r)) {
            return BAD;
        }
        if (!canTake(r, present.at)) {
            return STATE;
        }
        int took = minutesOfTaking(present.came, r);
        if (present.minutes + took > MOST_MINUTES) {
            return STATE;
        }
        past.remember(present);
        if (map.isTurn(present.came, r)) {
            present.turns++;
        }
        present.minutes += took;
        present.at = map.otherEnd(r, present.at);
        present.came = r;
        return took;
    }

    public int jams(int r, int n) {
        if (!map.hasRoad(r) || !isWithin(n, 0, MOST_JAM)) {
            return BAD;
        }
        past.remember(present);
        int before = present.jam[r];
        present.jam[r] = n;
        return before;
    }

    public int shuts(int r, int is) {
        if (!map.hasRoad(r) || !isWithin(is, 0, 1)) {
            return BAD;
        }
        if (present.isShut(r) == (is == 1)) {
            return STATE;
        }
        past.remember(present);
        present.shut ^= 1 << r;
        return Integer.bitCount(present.shut);
    }

    public int undo() {
        return past.restore(present) ? past.size() : STATE;
    }

    // ---- the way

    public int way(int k) {
        if (k < -2) {
            return BAD;
        }
        voice.look(map, present);
        int minutes = voice.follow(present.at, present.came);
        if (minutes == NONE || k == -1) {
            return minutes;
        }
        if (k == -2) {
            return voice.rowTurns;
        }
        return k < voice.rowLength ? voice.row[k] : NOT_THERE;
    }

    public int round() {
        voice.look(map, present);
        if (present.at == map.goal) {
            return NONE;
        }
        int first = voice.firstRoad(present.at, present.came);
        if (first == NONE) {
            return NONE;
        }
        return first == present.came ? 1 : 0;
    }

    public int on(int r) {
        if (!map.hasRoad(r) || !canTake(r, present.at)) {
            return BAD;
        }
        voice.look(map, present);
        return voice.minutesBy(r, present.at, present.came);
    }

    public int worst(int what) {
        if (!isWithin(what, 0, 1)) {
            return BAD;
        }
        voice.look(map, present);
        if (voice.minutesFrom(present.at, present.came) == NONE) {
            return NONE;
        }
        int open = openRoads();
        int worstRoad = NONE;
        int worstMinutes = 0;
        for (int r = 0; r < map.roads && worstMinutes != NONE; r++) {
            if (has(open, r)) {
                voice.lookAtOpen(open & ~(1 << r));
                int minutes = voice.minutesFrom(present.at, present.came);
                if (worstRoad == NONE || minutes == NONE || minutes > worstMinutes) {
                    worstRoad = r;
                    worstMinutes = minutes;
                }
            }
        }
        if (worstRoad == NONE || what == 0) {
            return worstRoad;
        }
        return worstMinutes == NONE ? NOT_THERE : worstMinutes;
    }

    // ---- his way, cars

    public int plans(int r) {
        if (!map.hasRoad(r)) {
            return BAD;
        }
        if (plannedCount >= MOST_PLANNED) {
            return FULL;
        }
        planned[plannedCount] = r;
        plannedCount++;
        return plannedCount;
    }

    public int drops() {
        int before = plannedCount;
        plannedCount = 0;
        return before;
    }

    public int his(int what) {
        if (!isWithin(what, 0, 1)) {
            return BAD;
        }
        int place = present.at;
        int came = present.came;
        int minutes = 0;
        int taken = 0;
        while (taken < plannedCount && canTake(planned[taken], place)) {
            int r = planned[taken];
            minutes += minutesOfTaking(came, r);
            place = map.otherEnd(r, place);
            came = r;
            taken++;
        }
        if (what == 1) {
            return taken;
        }
        voice.look(map, present);
        int rest = voice.minutesFrom(place, came);
        return rest == NONE ? NONE : minutes + rest;
    }

    public int cars(int n, int what) {
        if (!isWithin(n, 0, MOST_CARS) || !isWithin(what, 0, 1)) {
            return BAD;
        }
        voice.look(map, present);
        int first = voice.follow(map.begin, NONE);
        if (first == NONE) {
            return NONE;
        }
        return what == 0 ? minutesOneByOne(n, first) : minutesAlike(n, first);
    }

    // ---- tunnels

    public int tunnel(int k) {
        if (!isWithin(k, 0, MOST_STEPS)) {
            return BAD;
        }
        int places = 1 << present.at;
        for (int step = 1; step <= k; step++) {
            places = oneRoadOn(places);
        }
        return places;
    }

    public int saw(int k, int p) {
        if (!isWithin(k, 0, MOST_STEPS) || !map.hasPlace(p)) {
            return BAD;
        }
        if (seenCount >= MOST_SEEN) {
            return FULL;
        }
        seenSteps[seenCount] = k;
        seenPlaces[seenCount] = p;
        seenCount++;
        return seenCount;
    }

    public int forget() {
        int before = seenCount;
        seenCount = 0;
        return before;
    }

    public int where(int k) {
        if (!isWithin(k, 0, MOST_STEPS)) {
            return BAD;
        }
        int places = asSeen(1 << present.at, 0);
        for (int step = 1; step <= k; step++) {
            places = asSeen(oneRoadOn(places), step);
        }
        return places;
    }

    public int which(int j, int v) {
        if (!isWithin(j, 0, MOST_JAM) || !isWithin(v, 0, MOST_VALUE)) {
            return BAD;
        }
        voice.look(map, present);
        int bits = 0;
        for (int r = 0; r < map.roads; r++) {
            if (voice.minutesWithLonger(r, j, map.begin) == v) {
                bits |= 1 << r;
            }
        }
        return bits;
    }

    public long odds(int p, int n, int what) {
        if (!map.hasPlace(p) || !isWithin(n, 0, MOST_ODDS_STEPS) || !isWithin(what, 0, 1)) {
            return BAD;
        }
        chances.drive(map, openRoads(), present.at, n);
        return what == 0 ? chances.upper(p) : chances.lower(p);
    }

    // ---- kinds, images

    public int rate(int kind, int r) {
        if (!isWithin(kind, ROAD, BRIDGE) || !map.hasRoad(r)) {
            return NO;
        }
        return ratedAs(kind, r);
    }

    public int keep(int image) {
        if (!isWithin(image, 0, IMAGES - 1)) {
            return BAD;
        }
        images[image].become(present);
        imageKept[image] = true;
        return present.minutes;
    }

    public int back(int image) {
        if (!isWithin(image, 0, IMAGES - 1)) {
            return BAD;
        }
        if (!imageKept[image]) {
            return STATE;
        }
        present.become(images[image]);
        past.lose();
        return present.minutes;
    }

    public int count(int what) {
        switch (what) {
            case 0: return map.places;
            case 1: return map.roads;
            case 2: return map.begin;
            case 3: return map.goal;
            case 4: return map.nerves;
            case 5: return map.load;
            case 6: return plannedCount;
            case 7: return seenCount;
            case 8: return reader.size();
            default: return BAD;
        }
    }

    public long trace() {
        return traceSum;
    }

    // ---- what the calls share

    private static boolean isWithin(int number, int low, int high) {
        return number >= low && number <= high;
    }

    private static boolean has(int bits, int number) {
        return (bits >> number & 1) != 0;
    }

    /** THE TRACE stays: the document does not name it among what is gone. */
    private void beginAnew() {
        present.startAt(map.begin);
        past.lose();
        plannedCount = 0;
        seenCount = 0;
        for (int i = 0; i < IMAGES; i++) {
            imageKept[i] = false;
        }
    }

    private int longOf(int r) {
        return map.minutes[r] + present.jam[r];
    }

    private int openRoads() {
        return map.allRoads() & ~present.shut;
    }

    private boolean canTake(int r, int place) {
        return !present.isShut(r) && map.meets(r, place);
    }

    private int minutesOfTaking(int came, int r) {
        return longOf(r) + map.nervesFor(came, r);
    }

    private int minutesOneByOne(int n, int first) {
        int all = n == 0 ? 0 : first;
        for (int car = 1; car < n; car++) {
            voice.lookBehindRow(map.load);
            all += voice.follow(map.begin, NONE);
        }
        return all;
    }

    private int minutesAlike(int n, int first) {
        int each = first + map.load * (n - 1) * voice.meetingsInRow();
        return n * each;
    }

    private int oneRoadOn(int places) {
        int open = openRoads();
        int reached = 0;
        for (int r = 0; r < map.roads; r++) {
            if (has(open, r)) {
                if (has(places, map.from[r])) {
                    reached |= 1 << map.to[r];
                }
                if (has(places, map.to[r])) {
                    reached |= 1 << map.from[r];
                }
            }
        }
        return reached;
    }

    private int asSeen(int places, int step) {
        int left = places;
        for (int i = 0; i < seenCount; i++) {
            if (seenSteps[i] == step) {
                left &= 1 << seenPlaces[i];
            }
        }
        return left;
    }

    /** Up goes to a lower number alone, so this ends, three deep at most. */
    private int ratedAs(int kind, int r) {
        traceSum += TRACE_MARK[kind];
        int above = ABOVE[kind];
        int up = isWithin(above, ROAD, kind - 1) ? ratedAs(above, r) : longOf(r);
        switch (kind) {
            case LANE: return up + present.jam[r];
            case FORD: return up - Integer.bitCount(present.shut);
            case VILLAGE: return 2 * up;
            case TUNNEL: return up + r;
            case BRIDGE: return up + present.turns;
            default: return up;
        }
    }

    /** What a text tells: places, roads, which of them are straight, and four numbers. */
    private static final class Town {
        int places;
        int roads;
        int begin;
        int goal;
        int nerves;
        int load;
        final int[] from = new int[MOST_ROADS];
        final int[] to = new int[MOST_ROADS];
        final int[] minutes = new int[MOST_ROADS];
        final int[] straight = new int[MOST_ROADS];

        Town() {
            beAsAtFirst();
        }

        void beAsAtFirst() {
            places = 2;
            roads = 0;
            begin = 0;
            goal = 1;
            nerves = 2;
            load = 1;
        }

        void addRoad(int a, int b, int minutesTold) {
            from[roads] = a;
            to[roads] = b;
            minutes[roads] = minutesTold;
            straight[roads] = 0;
            roads++;
        }

        void makeStraight(int r, int s) {
            straight[r] |= 1 << s;
            straight[s] |= 1 << r;
        }

        boolean hasRoad(int r) {
            return r >= 0 && r < roads;
        }

        boolean hasPlace(int p) {
            return p >= 0 && p < places;
        }

        int allRoads() {
            return (1 << roads) - 1;
        }

        boolean meets(int r, int p) {
            return from[r] == p || to[r] == p;
        }

        int otherEnd(int r, int p) {
            return from[r] == p ? to[r] : from[r];
        }

        int roadsAt(int p) {
            int bits = 0;
            for (int r = 0; r < roads; r++) {
                if (meets(r, p)) {
                    bits |= 1 << r;
                }
            }
            return bits;
        }

        /** No road is straight with itself, so to go back by the same one is a turn. */
        boolean isTurn(int came, int r) {
            return came >= 0 && came < roads && (straight[came] >> r & 1) == 0;
        }

        int nervesFor(int came, int r) {
            return isTurn(came, r) ? nerves : 0;
        }
    }

    /** NOW: all that images keep and that can be undone. */
    private static final class Present {
        int at;
        int came = NONE;
        int minutes;
        int turns;
        int shut;
        final int[] jam = new int[MOST_ROADS];

        void startAt(int place) {
            at = place;
            came = NONE;
            minutes = 0;
            turns = 0;
            shut = 0;
            for (int r = 0; r < MOST_ROADS; r++) {
                jam[r] = 0;
            }
        }

        void become(Present other) {
            at = other.at;
            came = other.came;
            minutes = other.minutes;
            turns = other.turns;
            shut = other.shut;
            System.arraycopy(other.jam, 0, jam, 0, MOST_ROADS);
        }

        boolean isShut(int r) {
            return has(shut, r);
        }
    }

    /** The latest presents, in a ring: a new one takes the oldest one's room. */
    private static final class Past {
        private final Present[] known = new Present[MOST_UNDONE];
        private int next;
        private int kept;

        Past() {
            for (int i = 0; i < MOST_UNDONE; i++) {
                known[i] = new Present();
            }
        }

        int size() {
            return kept;
        }

        void remember(Present present) {
            known[next].become(present);
            next = next + 1 < MOST_UNDONE ? next + 1 : 0;
            kept = Math.min(kept + 1, MOST_UNDONE);
        }

        boolean restore(Present present) {
            if (kept == 0) {
                return false;
            }
            next = next > 0 ? next - 1 : MOST_UNDONE - 1;
            kept--;
            present.become(known[next]);
            return true;
        }

        void lose() {
            kept = 0;
        }
    }

    /** THE TEXT, and how a town is read from it, token by token. */
    private static final class Reader {
        private static final int NUMBER = -1, END = -2, WRONG = -3;
        private static final int REFUSED = -1;

        private final int[] letters = new int[MOST_LETTERS];
        private int length;
        private int next;
        private int token;
        /** Where the token begins: the fault's place, if it can't stand there. */
        private int tokenAt;
        private int number;
        private boolean goalTold;
        private boolean nervesTold;
        private boolean loadTold;

        int size() {
            return length;
        }

        boolean add(int letter) {
            if (length >= MOST_LETTERS) {
                return false;
            }
            letters[length] = letter;
            length++;
            return true;
        }

        int empty() {
            int before = length;
            length = 0;
            return before;
        }

        /** How many items there are, or -10 less the fault. */
        int read(Town town) {
            beginReading(town);
            int items = 0;
            while (token != END && items < MOST_LETTERS) {
                int kind = token;
                if (!canBegin(kind, town, items == 0)) {
                    return FAULT_BASE - tokenAt;
                }
                readToken();
                if (!readNumbers(kind, town) || token != ';') {
                    return FAULT_BASE - tokenAt;
                }
                readToken();
                items++;
            }
            return items;
        }

        private void beginReading(Town town) {
            town.beAsAtFirst();
            goalTold = false;
            nervesTold = false;
            loadTold = false;
            next = 0;
            readToken();
        }

        private boolean canBegin(int kind, Town town, boolean isFirst) {
            switch (kind) {
                case 'p': return isFirst;
                case 'r': return town.roads < MOST_ROADS;
                case 's': return true;
                case 'g': return !goalTold;
                case 'n': return !nervesTold;
                case 'l': return !loadTold;
                default: return false;
            }
        }

        private boolean readNumbers(int kind, Town town) {
            switch (kind) {
                case 'p': return readPlaces(town);
                case 'r': return readRoad(town);
                case 's': return readStraight(town);
                case 'g': return readGoal(town);
                case 'n': return readNerves(town);
                case 'l': return readLoad(town);
                default: return false;
            }
        }

        private boolean readPlaces(Town town) {
            int places = readNumber(2, MOST_PLACES, NONE);
            if (places == REFUSED) {
                return false;
            }
            town.places = places;
            return true;
        }

        private boolean readRoad(Town town) {
            int a = readNumber(0, town.places - 1, NONE);
            if (a == REFUSED) {
                return false;
            }
            int b = readNumber(0, town.places - 1, a);
            if (b == REFUSED) {
                return false;
            }
            int minutes = readNumber(1, LONGEST_ROAD, NONE);
            if (minutes == REFUSED) {
                return false;
            }
            town.addRoad(a, b, minutes);
            return true;
        }

        private boolean readStraight(Town town) {
            int r = readNumber(0, town.roads - 1, NONE);
            if (r == REFUSED) {
                return false;
            }
            int s = readNumber(0, town.roads - 1, r);
            if (s == REFUSED) {
                return false;
            }
            town.makeStraight(r, s);
            return true;
        }

        private boolean readGoal(Town town) {
            int begin = readNumber(0, town.places - 1, NONE);
            if (begin == REFUSED) {
                return false;
            }
            int goal = readNumber(0, town.places - 1, NONE);
            if (goal == REFUSED) {
                return false;
            }
            town.begin = begin;
            town.goal = goal;
            goalTold = true;
            return true;
        }

        private boolean readNerves(Town town) {
            int nerves = readNumber(0, MOST_NERVES, NONE);
            if (nerves == REFUSED) {
                return false;
            }
            town.nerves = nerves;
            nervesTold = true;
            return true;
        }

        private boolean readLoad(Town town) {
            int load = readNumber(0, MOST_LOAD, NONE);
            if (load == REFUSED) {
                return false;
            }
            town.load = load;
            loadTold = true;
            return true;
        }

        /** A refused token stays the token, so that it is the fault. */
        private int readNumber(int low, int high, int but) {
            if (token != NUMBER || !isWithin(number, low, high) || number == but) {
                return REFUSED;
            }
            int read = number;
            readToken();
            return read;
        }

        private void readToken() {
            while (next < length && letters[next] == ' ') {
                next++;
            }
            tokenAt = next;
            readDigits();
            int digits = next - tokenAt;
            if (digits > 0) {
                boolean zeroAhead = digits > 1 && letters[tokenAt] == '0';
                token = digits > 2 || zeroAhead ? WRONG : NUMBER;
            } else if (next >= length) {
                token = END;
            } else {
                token = isTokenLetter(letters[next]) ? letters[next] : WRONG;
                next++;
            }
        }

        /** Three digits are above 99, whatever they are, if no 0 may stand ahead: two are all that is counted. */
        private void readDigits() {
            number = 0;
            while (next < length && letters[next] >= '0' && letters[next] <= '9') {
                if (next - tokenAt < 2) {
                    number = number * 10 + letters[next] - '0';
                }
                next++;
            }
        }

        private static boolean isTokenLetter(int letter) {
            switch (letter) {
                case 'p': case 'r': case 's': case 'g': case 'n': case 'l': case ';': return true;
                default: return false;
            }
        }
    }

    /**
     * The quickest way. What a turn costs depends on the road one came by, so minutes to the goal are
     * measured from arrivals, not from places: 2 r is to have come by road r to its first place,
     * 2 r + 1 to its second. No quickest way has an arrival twice.
     */
    private static final class Voice {
        private static final int MOST_ARRIVALS = 2 * MOST_ROADS;
        private static final int TOO_FAR = 1000000;

        private Town town = new Town();
        private int open;
        private final int[] cost = new int[MOST_ROADS];
        private final int[] toGoal = new int[MOST_ARRIVALS];
        private final boolean[] settled = new boolean[MOST_ARRIVALS];
        private final int[] times = new int[MOST_ROADS];
        final int[] row = new int[MOST_ARRIVALS];
        int rowLength;
        int rowTurns;

        void look(Town map, Present present) {
            town = map;
            open = map.allRoads() & ~present.shut;
            for (int r = 0; r < map.roads; r++) {
                cost[r] = map.minutes[r] + present.jam[r];
            }
            measure();
        }

        void lookAtOpen(int roads) {
            open = roads;
            measure();
        }

        /** As one finds the roads behind a car that went the row. */
        void lookBehindRow(int load) {
            for (int i = 0; i < rowLength; i++) {
                cost[row[i]] += load;
            }
            measure();
        }

        /** From the goal backwards, the nearest arrival first: each is final when its turn comes. */
        private void measure() {
            int arrivals = 2 * town.roads;
            for (int a = 0; a < arrivals; a++) {
                toGoal[a] = placeOf(a) == town.goal ? 0 : TOO_FAR;
                settled[a] = false;
            }
            for (int done = 0; done < arrivals; done++) {
                int nearest = nearestUnsettled(arrivals);
                if (nearest == NONE) {
                    return;
                }
                settled[nearest] = true;
                measureBefore(nearest, arrivals);
            }
        }

        private int nearestUnsettled(int arrivals) {
            int nearest = NONE;
            int least = TOO_FAR;
            for (int a = 0; a < arrivals; a++) {
                if (!settled[a] && toGoal[a] < least) {
                    nearest = a;
                    least = toGoal[a];
                }
            }
            return nearest;
        }

        private void measureBefore(int arrival, int arrivals) {
            int r = arrival >> 1;
            int start = placeOf(arrival ^ 1);
            if (!has(open, r) || start == town.goal) {
                return;
            }
            int minutes = toGoal[arrival] + cost[r];
            for (int a = 0; a < arrivals; a++) {
                if (placeOf(a) == start) {
                    toGoal[a] = Math.min(toGoal[a], minutes + town.nervesFor(a >> 1, r));
                }
            }
        }

        private int placeOf(int arrival) {
            int r = arrival >> 1;
            return (arrival & 1) == 0 ? town.from[r] : town.to[r];
        }

        /** Minutes to the goal, if an open road at the place is taken first; NONE. */
        int minutesBy(int r, int place, int came) {
            int arrival = town.from[r] == place ? 2 * r + 1 : 2 * r;
            if (toGoal[arrival] >= TOO_FAR) {
                return NONE;
            }
            return cost[r] + town.nervesFor(came, r) + toGoal[arrival];
        }

        /** The lowest of the roads that are best from here, NONE if none leads to the goal. */
        int firstRoad(int place, int came) {
            int best = NONE;
            int least = TOO_FAR;
            for (int r = 0; r < town.roads; r++) {
                if (has(open, r) && town.meets(r, place)) {
                    int minutes = minutesBy(r, place, came);
                    if (minutes != NONE && minutes < least) {
                        best = r;
                        least = minutes;
                    }
                }
            }
            return best;
        }

        int minutesFrom(int place, int came) {
            if (place == town.goal) {
                return 0;
            }
            int first = firstRoad(place, came);
            return first == NONE ? NONE : minutesBy(first, place, came);
        }

        /** As if come by no road; the cost is put back, so that the next call has just its own road longer. */
        int minutesWithLonger(int r, int by, int place) {
            cost[r] += by;
            measure();
            int minutes = minutesFrom(place, NONE);
            cost[r] -= by;
            return minutes;
        }

        /** Keeps the way's roads and turns, and answers its minutes; NONE. */
        int follow(int place, int came) {
            rowLength = 0;
            rowTurns = 0;
            int minutes = 0;
            int here = place;
            int last = came;
            while (here != town.goal && rowLength < MOST_ARRIVALS) {
                int r = firstRoad(here, last);
                if (r == NONE) {
                    return NONE;
                }
                if (town.isTurn(last, r)) {
                    rowTurns++;
                }
                minutes += cost[r] + town.nervesFor(last, r);
                row[rowLength] = r;
                rowLength++;
                here = town.otherEnd(r, here);
                last = r;
            }
            return minutes;
        }

        /** How often a car that goes the row finds another one that goes it, too, on its road. */
        int meetingsInRow() {
            for (int r = 0; r < MOST_ROADS; r++) {
                times[r] = 0;
            }
            for (int i = 0; i < rowLength; i++) {
                times[row[i]]++;
            }
            int meetings = 0;
            for (int r = 0; r < MOST_ROADS; r++) {
                meetings += times[r] * times[r];
            }
            return meetings;
        }
    }

    /**
     * The odds of one who takes any road. All are told in parts of one whole, the least number that
     * every place's roads divide (840 at most, as 12 roads have 24 ends), to the power of the steps.
     */
    private static final class Odds {
        private long whole = 1;
        private final long[] parts = new long[MOST_PLACES];
        private final long[] nextParts = new long[MOST_PLACES];
        private final int[] roadsAt = new int[MOST_PLACES];

        void drive(Town town, int open, int start, int steps) {
            for (int p = 0; p < MOST_PLACES; p++) {
                roadsAt[p] = p < town.places ? town.roadsAt(p) & open : 0;
                parts[p] = p == start ? 1 : 0;
            }
            long unit = commonUnit();
            whole = 1;
            for (int step = 0; step < steps; step++) {
                takeAnyRoad(town, unit);
                whole *= unit;
            }
        }

        private long commonUnit() {
            long unit = 1;
            for (int p = 0; p < MOST_PLACES; p++) {
                int roads = Integer.bitCount(roadsAt[p]);
                if (roads > 0) {
                    long shared = commonDivisor(unit, roads);
                    if (shared > 0) {
                        unit = unit / shared * roads;
                    }
                }
            }
            return unit;
        }

        private void takeAnyRoad(Town town, long unit) {
            for (int p = 0; p < MOST_PLACES; p++) {
                nextParts[p] = 0;
            }
            for (int p = 0; p < MOST_PLACES; p++) {
                int roads = Integer.bitCount(roadsAt[p]);
                if (roads == 0) {
                    nextParts[p] += parts[p] * unit;
                } else {
                    spread(town, p, parts[p] * (unit / roads));
                }
            }
            System.arraycopy(nextParts, 0, parts, 0, MOST_PLACES);
        }

        private void spread(Town town, int p, long share) {
            for (int r = 0; r < town.roads; r++) {
                if (has(roadsAt[p], r)) {
                    nextParts[town.otherEnd(r, p)] += share;
                }
            }
        }

        long upper(int p) {
            return inLeastTerms(parts[p], p);
        }

        long lower(int p) {
            return inLeastTerms(whole, p);
        }

        private long inLeastTerms(long number, int p) {
            long shared = commonDivisor(whole, parts[p]);
            return shared > 0 ? number / shared : number;
        }

        /** Euclid's way ends in fewer than 100 steps for any two longs. */
        private static long commonDivisor(long a, long b) {
            long large = a;
            long small = b;
            for (int i = 0; i < 100 && small != 0; i++) {
                long rest = large % small;
                large = small;
                small = rest;
            }
            return large;
        }
    }
}
