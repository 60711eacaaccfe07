/** Hourglass tag among ten towers in a row; the document in ../shared/DOC.md says what each call promises. */
public final class HourglassTag {
    /** There is nothing to return. */
    public static final int NONE = -1;

    private static final int TOWERS = 10;
    private static final int HIGHEST = 9;
    private static final int MOST_PLAYERS = 4;
    private static final int MOST_SAND = 200;
    private static final int MOST_MOVES = 9999;
    private static final int MOST_TURNS_AHEAD = 4;
    private static final int SLOTS = 2;

    private static final int SETTINGS = 4;
    private static final int RUNNING = 0;
    private static final int APART = 1;
    private static final int TURNING = 2;
    private static final int REACH = 3;
    private static final int[] SETTING_AT_FIRST = {3, 2, 1, 1};
    private static final int[] SETTING_LEAST = {1, 0, 0, 0};
    private static final int[] SETTING_MOST = {20, 9, 20, 9};

    private static final int NOT_REFUSED = 0;
    private static final int STANDS_THERE = 1;
    private static final int NOT_SEEN = 2;
    private static final int STRIDE_TOO_DEAR = 3;
    private static final int TURN_TOO_DEAR = 4;
    private static final int NOT_IT = 5;
    private static final int SAME_PLAYER = 6;
    private static final int TOO_FAR = 7;

    private static final int TOWER_PROPERTIES = 4;
    private static final int PLAYER_PROPERTIES = 9;
    private static final int COUNTS = 11;

    private final Game game = new Game();
    private final Game[] slots = new Game[SLOTS];
    private final boolean[] slotFilled = new boolean[SLOTS];
    private final Past past = new Past();
    private final Text text = new Text();
    private final Ways ways = new Ways();
    private final Walk walk = new Walk();

    public HourglassTag() {
        for (int i = 0; i < SLOTS; i++) {
            slots[i] = new Game();
        }
    }

    // ---- towers, players

    public int height(int tower, int height) throws IndexOutOfBoundsException, IllegalArgumentException {
        if (!isTower(tower)) {
            throw new IndexOutOfBoundsException("no such tower");
        }
        if (height < 0 || height > HIGHEST) {
            throw new IllegalArgumentException("height is not 0 to 9");
        }
        past.save(game);
        int before = game.heights[tower];
        game.heights[tower] = height;
        return before;
    }

    public int player(int tower, int sand)
            throws IndexOutOfBoundsException, IllegalArgumentException, IllegalStateException {
        if (!isTower(tower)) {
            throw new IndexOutOfBoundsException("no such tower");
        }
        if (sand < 0 || sand > MOST_SAND) {
            throw new IllegalArgumentException("sand is not 0 to 200");
        }
        if (game.players >= MOST_PLAYERS) {
            throw new IllegalStateException("there are 4 players");
        }
        past.save(game);
        return game.addPlayer(tower, sand);
    }

    public int set(int setting, int value) throws IndexOutOfBoundsException, IllegalArgumentException {
        if (!isSetting(setting)) {
            throw new IndexOutOfBoundsException("no such setting");
        }
        if (value < SETTING_LEAST[setting] || value > SETTING_MOST[setting]) {
            throw new IllegalArgumentException("value is out of range");
        }
        past.save(game);
        int before = game.settings[setting];
        game.settings[setting] = value;
        return before;
    }

    // ---- moves

    public int rest() throws IllegalStateException {
        if (!game.takesMoves()) {
            throw new IllegalStateException("no player, or 9999 moves");
        }
        past.save(game);
        return game.endMove();
    }

    public int stride(int tower) throws IndexOutOfBoundsException, IllegalStateException {
        if (!isTower(tower)) {
            throw new IndexOutOfBoundsException("no such tower");
        }
        if (!game.takesMoves()) {
            throw new IllegalStateException("no player, or 9999 moves");
        }
        past.save(game);
        return game.moveByStride(tower);
    }

    public int turnOver() throws IllegalStateException {
        if (!game.takesMoves()) {
            throw new IllegalStateException("no player, or 9999 moves");
        }
        past.save(game);
        return game.moveByTurn();
    }

    public int tag(int player) throws IndexOutOfBoundsException, IllegalStateException {
        if (!game.hasPlayer(player)) {
            throw new IndexOutOfBoundsException("no such player");
        }
        if (!game.takesMoves()) {
            throw new IllegalStateException("9999 moves");
        }
        past.save(game);
        return game.moveByTag(player);
    }

    // ---- texts, snapshots

    public int append(int code) throws IllegalArgumentException, IllegalStateException {
        if (code < Text.FIRST_CODE || code > Text.LAST_CODE) {
            throw new IllegalArgumentException("code is not 33 to 126");
        }
        if (text.length >= Text.LONGEST) {
            throw new IllegalStateException("the buffer has 60 characters");
        }
        return text.add(code);
    }

    public int clearBuffer() {
        return text.empty();
    }

    public int firstError() {
        return text.firstWrong();
    }

    public int run() throws IllegalArgumentException {
        if (!text.tellsGame()) {
            throw new IllegalArgumentException("the buffer does not tell a game");
        }
        past.save(game);
        int done = 0;
        int at = 0;
        while (done < Text.LONGEST && at < text.length && playMove(text.codeAt(at), text.digitAt(at + 1))) {
            done++;
            at += text.widthOfMove(at);
        }
        text.empty();
        return done;
    }

    public int keep(int slot) throws IllegalArgumentException {
        if (slot < 0 || slot >= SLOTS) {
            throw new IllegalArgumentException("slot is not 0 or 1");
        }
        slots[slot].become(game);
        slotFilled[slot] = true;
        return game.moves;
    }

    public int goBack(int slot) throws IllegalArgumentException, IllegalStateException {
        if (slot < 0 || slot >= SLOTS) {
            throw new IllegalArgumentException("slot is not 0 or 1");
        }
        if (!slotFilled[slot]) {
            throw new IllegalStateException("no snapshot in the slot");
        }
        past.save(game);
        game.become(slots[slot]);
        return game.moves;
    }

    public int undo() throws IllegalStateException {
        if (past.held <= 0) {
            throw new IllegalStateException("no saved state");
        }
        past.restoreLatest(game);
        return past.held;
    }

    // ---- looks; nothing is changed

    public int tower(int tower, int what) throws IndexOutOfBoundsException, IllegalArgumentException {
        if (!isTower(tower)) {
            throw new IndexOutOfBoundsException("no such tower");
        }
        if (what < 0 || what >= TOWER_PROPERTIES) {
            throw new IllegalArgumentException("what is not 0 to 3");
        }
        return towerProperty(tower, what);
    }

    public int playerOf(int player, int what) throws IndexOutOfBoundsException, IllegalArgumentException {
        if (!game.hasPlayer(player)) {
            throw new IndexOutOfBoundsException("no such player");
        }
        if (what < 0 || what >= PLAYER_PROPERTIES) {
            throw new IllegalArgumentException("what is not 0 to 8");
        }
        return playerProperty(player, what);
    }

    public int count(int what) throws IllegalArgumentException {
        if (what < 0 || what >= COUNTS) {
            throw new IllegalArgumentException("what is not 0 to 10");
        }
        return number(what);
    }

    public int setting(int setting) throws IndexOutOfBoundsException {
        if (!isSetting(setting)) {
            throw new IndexOutOfBoundsException("no such setting");
        }
        return game.settings[setting];
    }

    // ---- what would be; nothing is changed

    public int price(int from, int to, int what) throws IndexOutOfBoundsException, IllegalArgumentException {
        if (!isTower(from) || !isTower(to)) {
            throw new IndexOutOfBoundsException("no such tower");
        }
        if (what != 0 && what != 1) {
            throw new IllegalArgumentException("what is not 0 or 1");
        }
        ways.layOut(game);
        return what == 0 ? ways.cheapestBySettling(from, to) : ways.cheapestByGoingOver(from, to);
    }

    public int whyNot(int player, int tower) throws IndexOutOfBoundsException {
        if (!game.hasPlayer(player) || !isTower(tower)) {
            throw new IndexOutOfBoundsException("no such player or tower");
        }
        return game.refusalOfStride(player, tower);
    }

    public int movesTo(int player, int tower) throws IndexOutOfBoundsException {
        if (!game.hasPlayer(player) || !isTower(tower)) {
            throw new IndexOutOfBoundsException("no such player or tower");
        }
        ways.layOut(game);
        return walk.fewestTurns(game, ways, player, tower);
    }

    public int prey() {
        return game.playersInReachOfIt();
    }

    public int lookout() {
        return game.towerThatSeesMost();
    }

    public double belowShare() {
        return game.shareOfSandBelow();
    }

    public long digest() {
        long hash = 3229L;
        for (int what = 0; what < COUNTS; what++) {
            hash = 31L * hash + number(what);
        }
        for (int i = 0; i < SETTINGS; i++) {
            hash = 31L * hash + game.settings[i];
        }
        ways.layOut(game);
        hash = withTowers(hash);
        for (int i = 0; i < game.players; i++) {
            hash = withPlayer(hash, i);
        }
        hash = 31L * hash + game.playersInReachOfIt();
        hash = 31L * hash + game.towerThatSeesMost();
        hash = 31L * hash + bitsOf(game.shareOfSandBelow());
        for (int i = 0; i < SLOTS; i++) {
            hash = 31L * hash + (slotFilled[i] ? 1L : 0L);
        }
        hash = 31L * hash + text.length;
        for (int i = 0; i < text.length; i++) {
            hash = 31L * hash + text.codeAt(i);
        }
        return hash;
    }

    // ---- helpers of the face

    private static boolean isTower(int tower) {
        return tower >= 0 && tower < TOWERS;
    }

    private static boolean isSetting(int setting) {
        return setting >= 0 && setting < SETTINGS;
    }

    /** Whether the move was done; it is not where it is refused, or where its method would throw. */
    private boolean playMove(int letter, int digit) {
        if (!game.takesMoves()) {
            return false;
        }
        switch (letter) {
            case 'w':
                game.endMove();
                return true;
            case 'o':
                return game.moveByTurn() == NOT_REFUSED;
            case 's':
                return isTower(digit) && game.moveByStride(digit) == NOT_REFUSED;
            default:
                return game.hasPlayer(digit) && game.moveByTag(digit) == NOT_REFUSED;
        }
    }

    private int towerProperty(int tower, int what) {
        switch (what) {
            case 0:
                return game.heights[tower];
            case 1:
                return game.lying[tower];
            case 2:
                return game.playersOn(tower);
            default:
                return game.towersSeenFrom(tower);
        }
    }

    private int playerProperty(int player, int what) {
        switch (what) {
            case 0:
                return game.place[player];
            case 1:
                return game.above[player];
            case 2:
                return game.below[player];
            case 3:
                return game.it == player ? 1 : 0;
            case 4:
                return game.movesMade[player];
            case 5:
                return game.tagsMade[player];
            case 6:
                return game.timesTagged[player];
            case 7:
                return game.grainsPaid[player];
            default:
                return game.towersToStrideTo(player);
        }
    }

    private int number(int what) {
        switch (what) {
            case 0:
                return game.players;
            case 1:
                return game.players > 0 ? game.onMove : NONE;
            case 2:
                return game.players > 0 ? game.it : NONE;
            case 3:
                return game.moves;
            case 4:
                return game.refused;
            case 5:
                return game.tags;
            case 6:
                return game.sandInGlasses() + game.sandOnTowers();
            case 7:
                return game.sandInGlasses();
            case 8:
                return game.sandOnTowers();
            case 9:
                return game.brought;
            default:
                return past.held;
        }
    }

    /** Needs the ways laid out. */
    private long withTowers(long before) {
        long hash = before;
        for (int tower = 0; tower < TOWERS; tower++) {
            for (int what = 0; what < TOWER_PROPERTIES; what++) {
                hash = 31L * hash + towerProperty(tower, what);
            }
            hash = 31L * hash + ways.cheapestBySettling(0, tower);
            hash = 31L * hash + ways.cheapestByGoingOver(0, tower);
        }
        return hash;
    }

    /** Needs the ways laid out. */
    private long withPlayer(long before, int player) {
        long hash = before;
        for (int what = 0; what < PLAYER_PROPERTIES; what++) {
            hash = 31L * hash + playerProperty(player, what);
        }
        for (int tower = 0; tower < TOWERS; tower++) {
            hash = 31L * hash + game.refusalOfStride(player, tower);
        }
        return 31L * hash + walk.fewestTurns(game, ways, player, TOWERS - 1);
    }

    /**
     * The bits by hand, as LANGUAGE.md leaves out Double.doubleToLongBits. A share is 0.0, or from 1/800 to 1.0:
     * ten doublings bring each of these to 1.0 or above, so that the lead behind the 1 fits 52 bits exactly.
     */
    private static long bitsOf(double share) {
        if (share <= 0.0) {
            return 0L;
        }
        double lead = share;
        long exponent = 1023L;
        for (int i = 0; i < 1000 && lead < 1.0; i++) {
            lead = lead * 2.0;
            exponent--;
        }
        return (exponent << 52) + (long) ((lead - 1.0) * 4503599627370496.0);
    }

    /** All that a snapshot or a saved state holds, and the rules of the moves. */
    private static final class Game {
        final int[] heights = new int[TOWERS];
        final int[] lying = new int[TOWERS];
        final int[] settings = new int[SETTINGS];
        final int[] place = new int[MOST_PLAYERS];
        final int[] above = new int[MOST_PLAYERS];
        final int[] below = new int[MOST_PLAYERS];
        final int[] movesMade = new int[MOST_PLAYERS];
        final int[] tagsMade = new int[MOST_PLAYERS];
        final int[] timesTagged = new int[MOST_PLAYERS];
        final int[] grainsPaid = new int[MOST_PLAYERS];
        int players = 0;
        int onMove = 0;
        int it = 0;
        int moves = 0;
        int refused = 0;
        int tags = 0;
        int brought = 0;

        Game() {
            for (int i = 0; i < SETTINGS; i++) {
                settings[i] = SETTING_AT_FIRST[i];
            }
        }

        void become(Game other) {
            System.arraycopy(other.heights, 0, heights, 0, TOWERS);
            System.arraycopy(other.lying, 0, lying, 0, TOWERS);
            System.arraycopy(other.settings, 0, settings, 0, SETTINGS);
            System.arraycopy(other.place, 0, place, 0, MOST_PLAYERS);
            System.arraycopy(other.above, 0, above, 0, MOST_PLAYERS);
            System.arraycopy(other.below, 0, below, 0, MOST_PLAYERS);
            System.arraycopy(other.movesMade, 0, movesMade, 0, MOST_PLAYERS);
            System.arraycopy(other.tagsMade, 0, tagsMade, 0, MOST_PLAYERS);
            System.arraycopy(other.timesTagged, 0, timesTagged, 0, MOST_PLAYERS);
            System.arraycopy(other.grainsPaid, 0, grainsPaid, 0, MOST_PLAYERS);
            players = other.players;
            onMove = other.onMove;
            it = other.it;
            moves = other.moves;
            refused = other.refused;
            tags = other.tags;
            brought = other.brought;
        }

        boolean hasPlayer(int player) {
            return player >= 0 && player < players;
        }

        boolean takesMoves() {
            return players > 0 && moves < MOST_MOVES;
        }

        /** The row of this player holds only zeros before: states are copied whole. */
        int addPlayer(int tower, int sand) {
            int number = players;
            place[number] = tower;
            above[number] = sand;
            brought += sand;
            players++;
            return number;
        }

        boolean sees(int one, int other) {
            int higher = Math.max(heights[one], heights[other]);
            int last = Math.max(one, other);
            for (int between = Math.min(one, other) + 1; between < last; between++) {
                if (heights[between] > higher) {
                    return false;
                }
            }
            return true;
        }

        int towersSeenFrom(int tower) {
            int mask = 0;
            for (int other = 0; other < TOWERS; other++) {
                if (sees(tower, other)) {
                    mask |= 1 << other;
                }
            }
            return mask;
        }

        int towerThatSeesMost() {
            int best = 0;
            int most = 0;
            for (int tower = 0; tower < TOWERS; tower++) {
                int seen = Integer.bitCount(towersSeenFrom(tower));
                if (seen > most) {
                    most = seen;
                    best = tower;
                }
            }
            return best;
        }

        int playersOn(int tower) {
            int mask = 0;
            for (int player = 0; player < players; player++) {
                if (place[player] == tower) {
                    mask |= 1 << player;
                }
            }
            return mask;
        }

        int priceOfStride(int from, int to) {
            return settings[APART] * Math.abs(to - from) + Math.max(0, heights[to] - heights[from]);
        }

        int refusalOfStride(int player, int tower) {
            int from = place[player];
            if (from == tower) {
                return STANDS_THERE;
            }
            if (!sees(from, tower)) {
                return NOT_SEEN;
            }
            return priceOfStride(from, tower) > below[player] ? STRIDE_TOO_DEAR : NOT_REFUSED;
        }

        int towersToStrideTo(int player) {
            int mask = 0;
            for (int tower = 0; tower < TOWERS; tower++) {
                if (refusalOfStride(player, tower) == NOT_REFUSED) {
                    mask |= 1 << tower;
                }
            }
            return mask;
        }

        int refusalOfTag(int player, int other) {
            if (player != it) {
                return NOT_IT;
            }
            if (player == other) {
                return SAME_PLAYER;
            }
            if (!sees(place[player], place[other])) {
                return NOT_SEEN;
            }
            return Math.abs(place[player] - place[other]) > settings[REACH] ? TOO_FAR : NOT_REFUSED;
        }

        int playersInReachOfIt() {
            int mask = 0;
            for (int other = 0; other < players; other++) {
                if (refusalOfTag(it, other) == NOT_REFUSED) {
                    mask |= 1 << other;
                }
            }
            return mask;
        }

        int moveByStride(int tower) {
            int reason = refusalOfStride(onMove, tower);
            if (reason != NOT_REFUSED) {
                return refuse(reason);
            }
            pay(priceOfStride(place[onMove], tower));
            place[onMove] = tower;
            above[onMove] += lying[tower];
            lying[tower] = 0;
            endMove();
            return NOT_REFUSED;
        }

        int moveByTurn() {
            if (settings[TURNING] > below[onMove]) {
                return refuse(TURN_TOO_DEAR);
            }
            pay(settings[TURNING]);
            int wasAbove = above[onMove];
            above[onMove] = below[onMove];
            below[onMove] = wasAbove;
            endMove();
            return NOT_REFUSED;
        }

        int moveByTag(int other) {
            int reason = refusalOfTag(onMove, other);
            if (reason != NOT_REFUSED) {
                return refuse(reason);
            }
            int half = below[other] / 2;
            below[other] -= half;
            above[onMove] += half;
            tagsMade[onMove]++;
            timesTagged[other]++;
            tags++;
            it = other;
            endMove();
            return NOT_REFUSED;
        }

        private int refuse(int reason) {
            refused++;
            return reason;
        }

        /** Taken from the sand below of the player on the move, onto the tower where this one still stands. */
        private void pay(int grains) {
            below[onMove] -= grains;
            grainsPaid[onMove] += grains;
            lying[place[onMove]] += grains;
        }

        /** What is behind each move that is not refused; to wait is no more than this. Answers the grains that run. */
        int endMove() {
            int grains = Math.min(settings[RUNNING], above[onMove]);
            above[onMove] -= grains;
            below[onMove] += grains;
            movesMade[onMove]++;
            moves++;
            onMove = onMove + 1 < players ? onMove + 1 : 0;
            return grains;
        }

        int sandBelow() {
            int sum = 0;
            for (int player = 0; player < players; player++) {
                sum += below[player];
            }
            return sum;
        }

        int sandInGlasses() {
            int sum = sandBelow();
            for (int player = 0; player < players; player++) {
                sum += above[player];
            }
            return sum;
        }

        int sandOnTowers() {
            int sum = 0;
            for (int tower = 0; tower < TOWERS; tower++) {
                sum += lying[tower];
            }
            return sum;
        }

        double shareOfSandBelow() {
            int inGlasses = sandInGlasses();
            if (inGlasses <= 0) {
                return 0.0;
            }
            return (double) sandBelow() / (double) inGlasses;
        }
    }

    /** The saved states: a ring of games that are made once, so that no call needs a new one. */
    private static final class Past {
        static final int MOST_SAVED = 6;

        final Game[] ring = new Game[MOST_SAVED];
        int oldest = 0;
        int held = 0;

        Past() {
            for (int i = 0; i < MOST_SAVED; i++) {
                ring[i] = new Game();
            }
        }

        void save(Game game) {
            if (held == MOST_SAVED) {
                oldest = (oldest + 1) % MOST_SAVED;
                held--;
            }
            ring[(oldest + held) % MOST_SAVED].become(game);
            held++;
        }

        void restoreLatest(Game game) {
            if (held > 0) {
                held--;
                game.become(ring[(oldest + held) % MOST_SAVED]);
            }
        }
    }

    /** The buffer, and the grammar of a game as a text. */
    private static final class Text {
        static final int LONGEST = 60;
        static final int FIRST_CODE = 33;
        static final int LAST_CODE = 126;

        private static final int AWAITS_MOVE = 0;
        private static final int AWAITS_TOWER = 1;
        private static final int AWAITS_PLAYER = 2;
        private static final int WRONG = 3;

        final int[] codes = new int[LONGEST];
        int length = 0;

        int add(int code) {
            if (length < LONGEST) {
                codes[length] = code;
                length++;
            }
            return length;
        }

        int empty() {
            int before = length;
            length = 0;
            return before;
        }

        int firstWrong() {
            int awaited = AWAITS_MOVE;
            for (int i = 0; i < length; i++) {
                awaited = awaitedBehind(awaited, codes[i]);
                if (awaited == WRONG) {
                    return i;
                }
            }
            return length;
        }

        /** Where no character is wrong, a letter that awaits a digit can only miss it at the very end. */
        boolean tellsGame() {
            return length > 0 && firstWrong() == length && !needsDigit(codes[length - 1]);
        }

        int codeAt(int index) {
            return index >= 0 && index < length ? codes[index] : NONE;
        }

        /** Behind a move without a digit stands anything or nothing: what is no digit answers NONE. */
        int digitAt(int index) {
            int code = codeAt(index);
            return code >= '0' && code <= '9' ? code - '0' : NONE;
        }

        int widthOfMove(int index) {
            return needsDigit(codeAt(index)) ? 2 : 1;
        }

        private static boolean needsDigit(int code) {
            return code == 's' || code == 't';
        }

        private static int awaitedBehind(int awaited, int code) {
            switch (awaited) {
                case AWAITS_TOWER:
                    return code >= '0' && code <= '9' ? AWAITS_MOVE : WRONG;
                case AWAITS_PLAYER:
                    return code >= '0' && code <= '3' ? AWAITS_MOVE : WRONG;
                default:
                    return awaitedBehindLetter(code);
            }
        }

        private static int awaitedBehindLetter(int code) {
            switch (code) {
                case 'w':
                case 'o':
                    return AWAITS_MOVE;
                case 's':
                    return AWAITS_TOWER;
                case 't':
                    return AWAITS_PLAYER;
                default:
                    return WRONG;
            }
        }
    }

    /** The prices of ways, told in two ways from the prices of single strides. */
    private static final class Ways {
        /** More than any way of ten towers can cost, and small enough to be added up. */
        static final int UNSEEN = 1000000;

        final int[][] single = new int[TOWERS][TOWERS];
        final int[][] sum = new int[TOWERS][TOWERS];
        final int[] cost = new int[TOWERS];
        final boolean[] settled = new boolean[TOWERS];

        /** Due before each look at a price, as heights and settings change between calls. */
        void layOut(Game game) {
            for (int from = 0; from < TOWERS; from++) {
                for (int to = 0; to < TOWERS; to++) {
                    single[from][to] = game.sees(from, to) ? game.priceOfStride(from, to) : UNSEEN;
                }
            }
        }

        int cheapestBySettling(int from, int to) {
            for (int tower = 0; tower < TOWERS; tower++) {
                cost[tower] = tower == from ? 0 : UNSEEN;
                settled[tower] = false;
            }
            for (int round = 0; round < TOWERS; round++) {
                int next = cheapestUnsettled();
                if (next == NONE) {
                    break;
                }
                settled[next] = true;
                for (int tower = 0; tower < TOWERS; tower++) {
                    cost[tower] = Math.min(cost[tower], cost[next] + single[next][tower]);
                }
            }
            return cost[to];
        }

        private int cheapestUnsettled() {
            int best = NONE;
            for (int tower = 0; tower < TOWERS; tower++) {
                if (!settled[tower] && (best == NONE || cost[tower] < cost[best])) {
                    best = tower;
                }
            }
            return best;
        }

        int cheapestByGoingOver(int from, int to) {
            for (int tower = 0; tower < TOWERS; tower++) {
                System.arraycopy(single[tower], 0, sum[tower], 0, TOWERS);
            }
            for (int over = 0; over < TOWERS; over++) {
                allowGoingOver(over);
            }
            return sum[from][to];
        }

        private void allowGoingOver(int over) {
            for (int from = 0; from < TOWERS; from++) {
                for (int to = 0; to < TOWERS; to++) {
                    sum[from][to] = Math.min(sum[from][to], sum[from][over] + sum[over][to]);
                }
            }
        }
    }

    /** Plays the own turns of one player ahead; the others only wait, and so change nothing that matters here. */
    private static final class Walk {
        final int[] lying = new int[TOWERS];
        int goal = 0;
        int running = 0;
        int turning = 0;

        /** Needs the ways laid out. */
        int fewestTurns(Game game, Ways ways, int player, int tower) {
            if (game.place[player] == tower) {
                return 0;
            }
            System.arraycopy(game.lying, 0, lying, 0, TOWERS);
            goal = tower;
            running = game.settings[RUNNING];
            turning = game.settings[TURNING];
            for (int turns = 1; turns <= MOST_TURNS_AHEAD; turns++) {
                if (reaches(this, ways, game.place[player], game.above[player], game.below[player], turns)) {
                    return turns;
                }
            }
            return NONE;
        }

        /** Each turn but the last one is tried in all ways; the last one can only be the stride to the goal. */
        private static boolean reaches(Walk walk, Ways ways, int at, int above, int below, int turns) {
            if (turns <= 0) {
                return false;
            }
            if (ways.single[at][walk.goal] <= below) {
                return true;
            }
            if (turns == 1) {
                return false;
            }
            return reachesBehindRun(walk, ways, at, above, below, turns)
                    || reachesBehindTurn(walk, ways, at, above, below, turns)
                    || reachesBehindStride(walk, ways, at, above, below, turns);
        }

        private static boolean reachesBehindRun(Walk walk, Ways ways, int at, int above, int below, int turns) {
            int grains = Math.min(walk.running, above);
            return reaches(walk, ways, at, above - grains, below + grains, turns - 1);
        }

        private static boolean reachesBehindTurn(Walk walk, Ways ways, int at, int above, int below, int turns) {
            int grains = walk.turning;
            if (grains > below) {
                return false;
            }
            walk.lying[at] += grains;
            boolean found = reachesBehindRun(walk, ways, at, below - grains, above, turns);
            walk.lying[at] -= grains;
            return found;
        }

        private static boolean reachesBehindStride(Walk walk, Ways ways, int at, int above, int below, int turns) {
            boolean found = false;
            for (int to = 0; to < TOWERS && !found; to++) {
                int grains = ways.single[at][to];
                if (to != at && grains <= below) {
                    int gathered = walk.lying[to];
                    walk.lying[to] = 0;
                    walk.lying[at] += grains;
                    found = reachesBehindRun(walk, ways, to, above + gathered, below - grains, turns);
                    walk.lying[at] -= grains;
                    walk.lying[to] = gathered;
                }
            }
            return found;
        }
    }
}
