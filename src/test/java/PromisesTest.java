/** At least one run for each promise of the document: ordinary inputs, the edges that it names, wrong inputs. */
public final class PromisesTest {
    private static final Check CHECK = new Check();
    private static final Class<IndexOutOfBoundsException> INDEX = Games.INDEX;
    private static final Class<IllegalArgumentException> ARGUMENT = Games.ARGUMENT;
    private static final Class<IllegalStateException> STATE = Games.STATE;
    private static final int[] NO_TOWERS = {-1, 10, Integer.MIN_VALUE, Integer.MAX_VALUE};

    public static void main(String[] args) {
        newObject();
        height();
        player();
        playerAfterMoves();
        set();
        rest();
        stride();
        strideReasons();
        strideLeavesAndGathers();
        turnOver();
        turnOverForNothing();
        tag();
        tagReasons();
        tagPasses();
        append();
        clearBuffer();
        firstError();
        run();
        runReachesBothEnds();
        runStops();
        runRefused();
        keep();
        goBack();
        undo();
        undoOfEachKind();
        undoSixStates();
        tower();
        towersSeen();
        playerOf();
        count();
        setting();
        price();
        priceOverOthers();
        whyNot();
        movesTo();
        movesToGathersAndTurns();
        prey();
        lookout();
        belowShare();
        digest();
        mostMoves();
        CHECK.end();
    }

    private static void same(String what, long got, long due) {
        CHECK.same(what, got, due);
    }

    private static void refuses(String what, HourglassTag x, Class<? extends RuntimeException> due, Runnable call) {
        CHECK.refuses(what, x, due, call);
    }

    private static void glass(String what, HourglassTag x, int player, int above, int below) {
        same(what + ": above", x.playerOf(player, 1), above);
        same(what + ": below", x.playerOf(player, 2), below);
    }

    // promise 1
    private static void newObject() {
        HourglassTag x = new HourglassTag();
        same("NONE", HourglassTag.NONE, -1);
        for (int what = 0; what <= 10; what++) {
            same("new count " + what, x.count(what), what == 1 || what == 2 ? -1 : 0);
        }
        for (int tower = 0; tower < 10; tower++) {
            same("new height " + tower, x.tower(tower, 0), 0);
            same("new sand " + tower, x.tower(tower, 1), 0);
            same("new players " + tower, x.tower(tower, 2), 0);
        }
        same("new buffer", x.clearBuffer(), 0);
        refuses("new slot 0", x, STATE, () -> x.goBack(0));
        refuses("new slot 1", x, STATE, () -> x.goBack(1));
        refuses("new saved states", x, STATE, x::undo);
    }

    // promise 2
    private static void height() {
        HourglassTag x = new HourglassTag();
        same("height(0, 9)", x.height(0, 9), 0);
        same("height(0, 4)", x.height(0, 4), 9);
        same("height(0, 4) again", x.height(0, 4), 4);
        same("height(9, 9)", x.height(9, 9), 0);
        same("height of 0", x.tower(0, 0), 4);
        same("height of 9", x.tower(9, 0), 9);
        same("saved by height", x.count(10), 4);
        same("undo", x.undo(), 3);
        same("height of 9 undone", x.tower(9, 0), 0);
        for (int t : NO_TOWERS) {
            refuses("height of tower " + t, x, INDEX, () -> x.height(t, 0));
            refuses("height of tower first " + t, x, INDEX, () -> x.height(t, 10));
        }
        for (int h : NO_TOWERS) {
            refuses("height " + h, x, ARGUMENT, () -> x.height(0, h));
        }
    }

    // promise 3
    private static void player() {
        HourglassTag x = new HourglassTag();
        same("player 0", x.player(0, 0), 0);
        same("player 1", x.player(9, 200), 1);
        same("player 2", x.player(9, 1), 2);
        same("player 3", x.player(5, 77), 3);
        same("tower of 1", x.playerOf(1, 0), 9);
        glass("player 1", x, 1, 200, 0);
        same("on the move", x.count(1), 0);
        same("it", x.count(2), 0);
        same("saved by player", x.count(10), 4);
        for (int t : NO_TOWERS) {
            refuses("player on " + t, x, INDEX, () -> x.player(t, 1));
            refuses("player on first " + t, x, INDEX, () -> x.player(t, 201));
        }
        for (int s : new int[] {-1, 201, Integer.MIN_VALUE, Integer.MAX_VALUE}) {
            refuses("player with " + s, x, ARGUMENT, () -> x.player(0, s));
        }
        refuses("fifth player", x, STATE, () -> x.player(0, 0));
        x.undo();
        same("three are left", x.count(0), 3);
        same("player 3 again", x.player(1, 2), 3);
        same("tower of the new 3", x.playerOf(3, 0), 1);
        glass("the new 3", x, 3, 2, 0);
    }

    private static void playerAfterMoves() {
        HourglassTag x = Games.withPlayers(0, 20);
        Games.rest(x, 2);
        x.stride(1);
        x.player(0, 5);
        same("gathers nothing", x.tower(0, 1), 2);
        glass("who gathers nothing", x, 1, 5, 0);
        same("player 0 stays on the move", x.count(1), 0);
        x.rest();
        same("then the player who came", x.count(1), 1);
        same("moves of who came", x.playerOf(1, 4), 0);
    }

    // promise 4
    private static void set() {
        HourglassTag x = new HourglassTag();
        int[] first = {3, 2, 1, 1};
        int[] least = {1, 0, 0, 0};
        int[] most = {20, 9, 20, 9};
        for (int i = 0; i < 4; i++) {
            int s = i;
            same("set least " + i, x.set(i, least[i]), first[i]);
            same("set most " + i, x.set(i, most[i]), least[i]);
            same("setting " + i, x.setting(i), most[i]);
            refuses("below least " + i, x, ARGUMENT, () -> x.set(s, least[s] - 1));
            refuses("above most " + i, x, ARGUMENT, () -> x.set(s, most[s] + 1));
            refuses("far above most " + i, x, ARGUMENT, () -> x.set(s, Integer.MAX_VALUE));
            refuses("far below least " + i, x, ARGUMENT, () -> x.set(s, Integer.MIN_VALUE));
        }
        same("saved by set", x.count(10), 6);
        for (int s : new int[] {-1, 4, Integer.MIN_VALUE, Integer.MAX_VALUE}) {
            refuses("set " + s, x, INDEX, () -> x.set(s, 1));
            refuses("set first " + s, x, INDEX, () -> x.set(s, -1));
        }
        x.undo();
        same("setting 3 undone", x.setting(3), 0);
    }

    // promise 5
    private static void rest() {
        HourglassTag x = new HourglassTag();
        refuses("rest without players", x, STATE, x::rest);
        x.player(4, 7);
        x.player(4, 3);
        same("3 of 7 run", x.rest(), 3);
        same("3 of 3 run", x.rest(), 3);
        same("3 of 4 run", x.rest(), 3);
        same("0 of 0 run", x.rest(), 0);
        same("1 of 1 runs", x.rest(), 1);
        glass("run down", x, 0, 0, 7);
        glass("run down too", x, 1, 0, 3);
        same("moves", x.count(3), 5);
        same("on the move", x.count(1), 1);
        same("saved by rest", x.count(10), 6);
        x.set(0, 20);
        x.undo();
        x.undo();
        glass("undone", x, 0, 1, 6);
    }

    // promise 6
    private static void stride() {
        HourglassTag x = Games.withPlayers(2, 50, 7, 50);
        x.set(0, 10);
        Games.rest(x, 2);
        same("stride to a neighbour", x.stride(3), 0);
        same("stands there", x.playerOf(0, 0), 3);
        glass("paid 2, and 10 ran", x, 0, 30, 18);
        same("lies on the tower left", x.tower(2, 1), 2);
        same("nothing lies where one stands", x.tower(3, 1), 0);
        same("paid", x.playerOf(0, 7), 2);
        same("next on the move", x.count(1), 1);
        same("stride refused", x.stride(7), 1);
        same("still on the move", x.count(1), 1);
        same("refused", x.count(4), 1);
        same("saved by both", x.count(10), 6);
        same("moves", x.count(3), 3);
        same("undo of the refused one", x.undo(), 5);
        same("refused undone", x.count(4), 0);
        for (int t : NO_TOWERS) {
            refuses("stride to " + t, x, INDEX, () -> x.stride(t));
        }
        HourglassTag empty = new HourglassTag();
        refuses("stride to 10 without players", empty, INDEX, () -> empty.stride(10));
        refuses("stride without players", empty, STATE, () -> empty.stride(0));
    }

    private static void strideReasons() {
        HourglassTag x = Games.withHeights(2, 0, 5, 0, 3, 9);
        x.player(0, 100);
        x.set(0, 7);
        x.rest();
        same("1: stands there", x.stride(0), 1);
        same("2: hidden by 2", x.stride(3), 2);
        same("2: hidden by 2 too", x.stride(4), 2);
        same("3: 2 apart and 3 higher is exactly all, so not refused", x.stride(2), 0);
        glass("paid all 7", x, 0, 86, 7);
        same("down is no cheaper than the way: 2 of 7", x.stride(1), 0);
        glass("paid 2", x, 0, 79, 12);
        same("3: 1 apart and 5 higher is 7", x.stride(2), 0);
        same("3: 3 apart and 4 higher is 10", x.stride(5), 0);
        HourglassTag poor = Games.withHeights(2, 0, 5);
        poor.player(0, 100);
        poor.set(0, 6);
        poor.rest();
        same("3: one grain is missing", poor.stride(2), 3);
        same("2 before 3", poor.stride(3), 2);
        poor.set(1, 0);
        same("free on the same height or lower", poor.stride(1), 0);
        same("nothing paid", poor.playerOf(0, 7), 0);
    }

    private static void strideLeavesAndGathers() {
        HourglassTag x = Games.withPlayers(4, 40, 6, 40);
        x.set(0, 20);
        Games.rest(x, 2);
        same("0 leaves 2 on 4", x.stride(5), 0);
        same("1 comes to 5 and gathers nothing", x.stride(5), 0);
        same("0 gathers what 1 left on 6", x.stride(6), 0);
        same("6 is empty", x.tower(6, 1), 0);
        same("5 holds what 0 left", x.tower(5, 1), 2);
        glass("0 gathered above, where it ran at once", x, 0, 0, 38);
        same("1 gathers the 2 on 4", x.stride(4), 0);
        glass("1 gathered above, and its last grains ran", x, 1, 0, 38);
        same("4 is empty", x.tower(4, 1), 0);
        same("5 holds both", x.tower(5, 1), 4);
        same("all sand stays", x.count(6), 80);
    }

    // promise 7
    private static void turnOver() {
        HourglassTag x = new HourglassTag();
        refuses("turn without players", x, STATE, x::turnOver);
        x.player(3, 20);
        x.player(8, 20);
        same("4: nothing below", x.turnOver(), 4);
        same("still on the move", x.count(1), 0);
        same("refused", x.count(4), 1);
        same("saved", x.count(10), 3);
        Games.rest(x, 2);
        x.set(2, 3);
        same("all 3 below are just enough", x.turnOver(), 0);
        glass("turned, and nothing above to run", x, 0, 0, 17);
        same("lies where the player stands", x.tower(3, 1), 3);
        same("paid", x.playerOf(0, 7), 3);
        x.set(2, 4);
        same("4: one is missing", x.turnOver(), 4);
        x.set(2, 1);
        same("2 of the 3 come above", x.turnOver(), 0);
        glass("turned, and they run", x, 1, 0, 19);
        same("undo", x.undo(), 5);
        glass("undone", x, 1, 17, 3);
        same("nothing on 8", x.tower(8, 1), 0);
    }

    private static void turnOverForNothing() {
        HourglassTag x = Games.withPlayers(3, 5);
        x.set(2, 0);
        same("0 of 0 is enough", x.turnOver(), 0);
        glass("turned", x, 0, 0, 5);
        same("turned back", x.turnOver(), 0);
        glass("turned back, and 3 run", x, 0, 2, 3);
        same("nothing lies", x.tower(3, 1), 0);
    }

    // promise 8
    private static void tag() {
        HourglassTag x = Games.withPlayers(3, 50, 4, 50);
        x.set(0, 5);
        Games.rest(x, 2);
        same("tag", x.tag(1), 0);
        glass("taken from", x, 1, 45, 3);
        glass("half of 5 is 2, put above before 5 run", x, 0, 42, 10);
        same("it", x.count(2), 1);
        same("1 is it", x.playerOf(1, 3), 1);
        same("0 is not it", x.playerOf(0, 3), 0);
        same("tags made", x.playerOf(0, 5), 1);
        same("times tagged", x.playerOf(1, 6), 1);
        same("tags", x.count(5), 1);
        same("moves", x.count(3), 3);
        same("moves of the tagger", x.playerOf(0, 4), 2);
        same("nothing paid", x.playerOf(0, 7), 0);
        same("on the move", x.count(1), 1);
        same("tag back", x.tag(0), 0);
        glass("half of 10", x, 0, 42, 5);
        glass("put above, and 5 run", x, 1, 45, 8);
        same("undo", x.undo(), 5);
        same("it again", x.count(2), 1);
        same("tags undone", x.count(5), 1);
        HourglassTag empty = new HourglassTag();
        refuses("tag without players", empty, INDEX, () -> empty.tag(0));
        for (int p : new int[] {-1, 2, 4, Integer.MIN_VALUE, Integer.MAX_VALUE}) {
            refuses("tag " + p, x, INDEX, () -> x.tag(p));
        }
    }

    private static void tagReasons() {
        HourglassTag x = Games.withHeights(0, 0, 0, 4);
        x.player(1, 30);
        x.player(4, 30);
        x.player(9, 30);
        same("6: oneself", x.tag(0), 6);
        same("2: hidden by 3, and too far", x.tag(1), 2);
        x.height(3, 0);
        same("7: 3 apart", x.tag(1), 7);
        x.set(3, 2);
        same("7: still 3 apart", x.tag(1), 7);
        same("refused", x.count(4), 4);
        x.set(3, 3);
        same("3 apart is near enough", x.tag(1), 0);
        same("it", x.count(2), 1);
        x.rest();
        same("5: 2 is not it, though the same", x.tag(2), 5);
        same("5: 2 is not it", x.tag(1), 5);
        same("refused too", x.count(4), 6);
        same("it stays", x.count(2), 1);
        same("2 stays on the move", x.count(1), 2);
        same("saved", x.count(10), 6);
    }

    private static void tagPasses() {
        HourglassTag x = Games.withPlayers(5, 10, 5, 10);
        x.set(3, 0);
        same("on the same tower with reach 0", x.tag(1), 0);
        glass("half of nothing", x, 1, 10, 0);
        glass("3 run", x, 0, 7, 3);
        x.rest();
        x.rest();
        same("half of 6", x.tag(0), 0);
        glass("3 taken", x, 0, 4, 3);
        glass("3 put above, 3 run", x, 1, 7, 6);
    }

    // promise 9
    private static void append() {
        HourglassTag x = new HourglassTag();
        for (int code : new int[] {32, 127, 0, -1, Integer.MIN_VALUE, Integer.MAX_VALUE}) {
            refuses("append " + code, x, ARGUMENT, () -> x.append(code));
        }
        for (int i = 1; i <= 60; i++) {
            same("append", x.append(i % 2 == 0 ? 33 : 126), i);
        }
        refuses("the 61st", x, STATE, () -> x.append(119));
        refuses("the 61st, and wrong", x, ARGUMENT, () -> x.append(127));
        refuses("the 61st, and wrong below", x, ARGUMENT, () -> x.append(32));
        same("is not undoable", x.count(10), 0);
        same("60", x.clearBuffer(), 60);
    }

    // promise 10
    private static void clearBuffer() {
        HourglassTag x = new HourglassTag();
        same("empty", x.clearBuffer(), 0);
        Games.type(x, "abc");
        same("three", x.clearBuffer(), 3);
        same("cleared", x.clearBuffer(), 0);
        same("append behind it", x.append('w'), 1);
        same("is not undoable", x.count(10), 0);
        same("firstError", x.firstError(), 1);
    }

    // promise 11
    private static void firstError() {
        error("", 0);
        error("w", 1);
        error("wos9t3o", 7);
        error("s", 1);
        error("t", 1);
        error("ws0t", 4);
        error("x", 0);
        error("0", 0);
        error("W", 0);
        error("sw", 1);
        error("ts", 1);
        error("s/", 1);
        error("s:", 1);
        error("s0s9", 4);
        error("t/", 1);
        error("t0t3", 4);
        error("t4", 1);
        error("w1", 1);
        error("s11", 2);
        error("t00", 2);
        error("wwx!", 2);
        error("wot4x", 3);
    }

    private static void error(String text, int due) {
        HourglassTag x = new HourglassTag();
        Games.type(x, text);
        same("firstError of " + text, x.firstError(), due);
        same("firstError of " + text + " again", x.firstError(), due);
        same("the buffer stays", x.clearBuffer(), text.length());
    }

    // promise 12
    private static void run() {
        HourglassTag x = Games.withPlayers(3, 30, 4, 30);
        HourglassTag y = Games.withPlayers(3, 30, 4, 30);
        Games.type(x, "wwt1s5os1");
        same("all but the last are done", x.run(), 5);
        Games.rest(y, 2);
        same("tag", y.tag(1), 0);
        same("stride with the last grains", y.stride(5), 0);
        same("turn", y.turnOver(), 0);
        same("stride that is too dear", y.stride(1), 3);
        for (int what = 0; what <= 9; what++) {
            same("count " + what, x.count(what), y.count(what));
        }
        for (int player = 0; player < 2; player++) {
            for (int what = 0; what <= 8; what++) {
                same("player " + player + ", " + what, x.playerOf(player, what), y.playerOf(player, what));
            }
        }
        HourglassTag z = Games.withPlayers(3, 30, 4, 30);
        z.set(1, 0);
        Games.type(z, "wwt1s5os1");
        same("free strides", z.run(), 6);
        same("moves", z.count(3), 6);
        same("0 still on 3", z.playerOf(0, 0), 3);
        same("1 on 1", z.playerOf(1, 0), 1);
    }

    private static void runReachesBothEnds() {
        HourglassTag x = Games.withPlayers(5, 200, 4, 0, 4, 0, 5, 0);
        x.set(0, 20);
        x.set(3, 5);
        Games.type(x, "wwww" + "wwww" + "s9www" + "wwww" + "s0www" + "t3wwt2" + "s0");
        same("all but the last are done", x.run(), 24);
        same("0 went to 9, then to 0", x.playerOf(0, 0), 0);
        same("sand on 0 is gathered", x.tower(0, 1), 0);
        same("8 of 5's way lie there", x.tower(5, 1), 8);
        same("18 of 9's way lie there", x.tower(9, 1), 18);
        same("tags", x.count(5), 2);
        same("it", x.count(2), 2);
        same("refused", x.count(4), 1);
        x.turnOver();
        same("1 lies on 0", x.tower(0, 1), 1);
        same("on towers", x.count(8), 27);
    }

    private static void runStops() {
        HourglassTag x = Games.withPlayers(3, 30, 4, 30);
        Games.type(x, "wws3w");
        same("the third is refused", x.run(), 2);
        same("moves", x.count(3), 2);
        same("counted as refused", x.count(4), 1);
        same("0 on the move", x.count(1), 0);
        same("buffer is cleared", x.clearBuffer(), 0);
        same("one saved state", x.count(10), 3);
        same("undo as one", x.undo(), 2);
        same("moves undone", x.count(3), 0);
        same("refused undone", x.count(4), 0);
        same("the buffer does not come back", x.clearBuffer(), 0);
        Games.type(x, "wt3w");
        same("player 3 is none: the method would throw", x.run(), 1);
        same("which is not refused", x.count(4), 0);
        same("moves", x.count(3), 1);
        Games.type(x, "t2");
        same("nothing done", x.run(), 0);
        same("saved all the same", x.count(10), 4);
        HourglassTag empty = new HourglassTag();
        Games.type(empty, "ws5ot0");
        same("no player: nothing done", empty.run(), 0);
        same("saved", empty.count(10), 1);
        same("cleared", empty.clearBuffer(), 0);
        same("refused none", empty.count(4), 0);
    }

    private static void runRefused() {
        HourglassTag x = Games.withPlayers(3, 30);
        refuses("an empty buffer", x, ARGUMENT, x::run);
        for (String text : new String[] {"s", "ws", "wt", "wx", "t4", "w0", "s3t"}) {
            x.clearBuffer();
            Games.type(x, text);
            refuses("run of " + text, x, ARGUMENT, x::run);
            same("the buffer stays", x.clearBuffer(), text.length());
        }
        HourglassTag full = Games.withPlayers(3, 200);
        Games.type(full, "wwwwwwwwwwwwwwwwwwwwwwwwwwwwwwwwwwwwwwwwwwwwwwwwwwwwwwwwwwww");
        same("60 moves", full.run(), 60);
        glass("60 times 3", full, 0, 20, 180);
    }

    // promise 13
    private static void keep() {
        HourglassTag x = Games.withPlayers(3, 30);
        same("keep(0)", x.keep(0), 0);
        x.rest();
        same("keep(1)", x.keep(1), 1);
        x.rest();
        same("keep(0) in its place", x.keep(0), 2);
        same("is not undoable", x.count(10), 3);
        x.rest();
        same("goBack(0)", x.goBack(0), 2);
        same("goBack(1)", x.goBack(1), 1);
        for (int s : new int[] {-1, 2, Integer.MIN_VALUE, Integer.MAX_VALUE}) {
            refuses("keep " + s, x, ARGUMENT, () -> x.keep(s));
        }
    }

    // promise 14
    private static void goBack() {
        HourglassTag x = Games.withPlayers(3, 30);
        for (int s : new int[] {-1, 2, Integer.MIN_VALUE, Integer.MAX_VALUE}) {
            refuses("goBack " + s, x, ARGUMENT, () -> x.goBack(s));
        }
        refuses("goBack(0)", x, STATE, () -> x.goBack(0));
        x.rest();
        x.keep(1);
        refuses("goBack(0) still", x, STATE, () -> x.goBack(0));
        x.height(5, 5);
        x.set(1, 9);
        x.player(0, 10);
        x.rest();
        x.stride(1);
        Games.type(x, "ow");
        same("goBack(1)", x.goBack(1), 1);
        same("height", x.tower(5, 0), 0);
        same("setting", x.setting(1), 2);
        same("players", x.count(0), 1);
        same("brought", x.count(9), 30);
        same("refused", x.count(4), 0);
        same("the buffer stays", x.firstError(), 2);
        same("saved as the sixth", x.count(10), 6);
        same("undo", x.undo(), 5);
        same("players are back", x.count(0), 2);
        same("refused is back", x.count(4), 1);
        same("the snapshot stays", x.goBack(1), 1);
        same("and again", x.goBack(1), 1);
    }

    // promise 15
    private static void undo() {
        HourglassTag x = new HourglassTag();
        refuses("nothing to undo", x, STATE, x::undo);
        x.player(3, 30);
        x.keep(0);
        Games.type(x, "w");
        same("undo", x.undo(), 0);
        same("no player", x.count(0), 0);
        same("none on the move", x.count(1), -1);
        same("none is it", x.count(2), -1);
        same("nothing brought", x.count(9), 0);
        same("the slot stays", x.goBack(0), 0);
        same("the buffer stays", x.clearBuffer(), 1);
        same("undo of goBack", x.undo(), 0);
        refuses("nothing to undo again", x, STATE, x::undo);
    }

    private static void undoOfEachKind() {
        HourglassTag x = Games.withPlayers(3, 30, 4, 30);
        x.rest();
        x.keep(0);
        x.rest();
        undone(x, () -> x.height(1, 5), "height");
        undone(x, () -> x.player(1, 5), "player");
        undone(x, () -> x.set(1, 5), "set");
        undone(x, x::rest, "rest");
        undone(x, () -> x.stride(2), "stride");
        undone(x, () -> x.stride(3), "stride refused");
        undone(x, x::turnOver, "turnOver");
        undone(x, () -> x.tag(1), "tag");
        undone(x, () -> x.tag(0), "tag refused");
        undone(x, () -> x.goBack(0), "goBack");
        HourglassTag poor = Games.withPlayers(3, 30);
        undone(poor, poor::turnOver, "turnOver refused");
    }

    private static void undone(HourglassTag x, Runnable call, String what) {
        int saved = x.count(10);
        long before = x.digest();
        call.run();
        same(what + " saves", x.count(10), saved + 1);
        same(what + " is undone to", x.undo(), saved);
        same(what + " leaves after undo", x.digest(), before);
    }

    private static void undoSixStates() {
        HourglassTag x = Games.withPlayers(3, 30);
        for (int i = 1; i <= 8; i++) {
            x.height(0, i);
        }
        same("6 are saved", x.count(10), 6);
        for (int i = 5; i >= 0; i--) {
            same("undo", x.undo(), i);
            same("height", x.tower(0, 0), i + 2);
        }
        refuses("the oldest were dropped", x, STATE, x::undo);
        x.height(0, 9);
        same("undo", x.undo(), 0);
        same("height", x.tower(0, 0), 2);
    }

    // promise 16
    private static void tower() {
        HourglassTag x = Games.withPlayers(3, 30, 5, 1, 3, 2, 9, 0);
        x.height(3, 6);
        same("height", x.tower(3, 0), 6);
        same("players on 3", x.tower(3, 2), 5);
        same("players on 5", x.tower(5, 2), 2);
        same("players on 9", x.tower(9, 2), 8);
        same("players on 0", x.tower(0, 2), 0);
        x.rest();
        x.undo();
        x.set(2, 0);
        x.turnOver();
        x.undo();
        Games.rest(x, 4);
        x.set(2, 3);
        x.turnOver();
        same("sand on 3", x.tower(3, 1), 3);
        for (int t : NO_TOWERS) {
            refuses("tower " + t, x, INDEX, () -> x.tower(t, 0));
            refuses("tower first " + t, x, INDEX, () -> x.tower(t, 4));
        }
        for (int w : new int[] {-1, 4, Integer.MIN_VALUE, Integer.MAX_VALUE}) {
            refuses("what " + w, x, ARGUMENT, () -> x.tower(0, w));
        }
        same("saved", x.count(10), 6);
    }

    private static void towersSeen() {
        HourglassTag flat = new HourglassTag();
        for (int tower = 0; tower < 10; tower++) {
            same("all are seen on the flat", flat.tower(tower, 3), 1023);
        }
        HourglassTag x = Games.withHeights(0, 3, 1, 3, 4, 0, 9, 0, 0, 2);
        same("0 sees 0, 1, 3, 4, 6", x.tower(0, 3), 0b0001011011);
        same("1 sees 0, 1, 2, 3, 4, 6", x.tower(1, 3), 0b0001011111);
        same("2 sees 1, 2, 3, 4, 6", x.tower(2, 3), 0b0001011110);
        same("5 sees 4, 5, 6", x.tower(5, 3), 0b0001110000);
        same("6 sees all", x.tower(6, 3), 1023);
        same("8 sees 6, 7, 8, 9", x.tower(8, 3), 0b1111000000);
        same("9 sees 6 to 9", x.tower(9, 3), 0b1111000000);
    }

    // promise 17
    private static void playerOf() {
        HourglassTag x = Games.withPlayers(3, 30, 4, 40);
        Games.rest(x, 2);
        x.stride(2);
        x.tag(0);
        x.turnOver();
        x.undo();
        x.turnOver();
        x.tag(1);
        x.rest();
        int[] zero = {2, 21, 7, 1, 3, 0, 0, 2, 0b0000111011};
        int[] one = {4, 0, 39, 0, 2, 0, 0, 1, 0b1111101111};
        for (int what = 0; what <= 8; what++) {
            same("player 0, " + what, x.playerOf(0, what), zero[what]);
            same("player 1, " + what, x.playerOf(1, what), one[what]);
        }
        for (int p : new int[] {-1, 2, 4, Integer.MIN_VALUE, Integer.MAX_VALUE}) {
            refuses("player " + p, x, INDEX, () -> x.playerOf(p, 0));
            refuses("player first " + p, x, INDEX, () -> x.playerOf(p, 9));
        }
        for (int w : new int[] {-1, 9, Integer.MIN_VALUE, Integer.MAX_VALUE}) {
            refuses("what " + w, x, ARGUMENT, () -> x.playerOf(1, w));
        }
    }

    // promise 18
    private static void count() {
        HourglassTag alone = Games.withPlayers(3, 30);
        same("alone on the move", alone.count(1), 0);
        same("alone is it", alone.count(2), 0);
        HourglassTag x = Games.withPlayers(3, 30, 4, 40);
        Games.rest(x, 2);
        x.tag(1);
        x.stride(4);
        x.stride(3);
        Games.type(x, "wws3w");
        x.run();
        int[] due = {2, 0, 1, 6, 2, 1, 70, 68, 2, 70, 6};
        for (int what = 0; what <= 10; what++) {
            same("count " + what, x.count(what), due[what]);
        }
        for (int w : new int[] {-1, 11, Integer.MIN_VALUE, Integer.MAX_VALUE}) {
            refuses("count " + w, x, ARGUMENT, () -> x.count(w));
        }
    }

    // promise 19
    private static void setting() {
        HourglassTag x = new HourglassTag();
        int[] first = {3, 2, 1, 1};
        for (int i = 0; i < 4; i++) {
            same("setting " + i, x.setting(i), first[i]);
        }
        x.set(2, 17);
        same("setting 2 changed", x.setting(2), 17);
        for (int s : new int[] {-1, 4, Integer.MIN_VALUE, Integer.MAX_VALUE}) {
            refuses("setting " + s, x, INDEX, () -> x.setting(s));
        }
    }

    // promise 20
    private static void price() {
        HourglassTag x = Games.withHeights(0, 3, 1);
        for (int how = 0; how < 2; how++) {
            int w = how;
            same("to itself", x.price(4, 4, how), 0);
            same("up", x.price(0, 1, how), 5);
            same("down", x.price(1, 0, how), 2);
            same("over a hill", x.price(0, 2, how), 7);
            same("the other way", x.price(2, 0, how), 6);
            same("far", x.price(9, 0, how), 21);
            for (int t : NO_TOWERS) {
                refuses("price from " + t, x, INDEX, () -> x.price(t, 0, w));
                refuses("price to " + t, x, INDEX, () -> x.price(0, t, w));
                refuses("price to first " + t, x, INDEX, () -> x.price(0, t, 2));
            }
        }
        for (int w : new int[] {-1, 2, Integer.MIN_VALUE, Integer.MAX_VALUE}) {
            refuses("price what " + w, x, ARGUMENT, () -> x.price(0, 0, w));
        }
        x.set(1, 0);
        same("only heights", x.price(0, 9, 0), 3);
        same("only heights, told by ways over", x.price(0, 9, 1), 3);
        same("nothing", x.price(1, 9, 0), 0);
        x.set(1, 9);
        same("dear", x.price(0, 9, 0), 84);
        same("dear, told by ways over", x.price(0, 9, 1), 84);
    }

    private static void priceOverOthers() {
        HourglassTag x = Games.withHeights(9, 0, 9, 0, 9, 0, 9, 0, 9, 0);
        for (int how = 0; how < 2; how++) {
            same("from top to top", x.price(0, 8, how), 16);
            same("from top to the last", x.price(0, 9, how), 18);
            same("from the last to the top", x.price(9, 0, how), 27);
            same("up to 4 and down to 1", x.price(5, 1, how), 17);
        }
    }

    // promise 21
    private static void whyNot() {
        HourglassTag x = Games.withHeights(2, 0, 5, 0, 3, 9);
        x.player(0, 100);
        x.player(4, 10);
        x.set(0, 7);
        Games.rest(x, 2);
        int[] zero = {1, 0, 0, 2, 2, 3, 2, 2, 2, 2};
        int[] one = {2, 2, 0, 0, 1, 3, 2, 2, 2, 2};
        for (int tower = 0; tower < 10; tower++) {
            same("0 to " + tower, x.whyNot(0, tower), zero[tower]);
            same("1, who is not on the move, to " + tower, x.whyNot(1, tower), one[tower]);
        }
        for (int t : NO_TOWERS) {
            refuses("whyNot tower " + t, x, INDEX, () -> x.whyNot(0, t));
        }
        for (int p : new int[] {-1, 2, Integer.MIN_VALUE, Integer.MAX_VALUE}) {
            refuses("whyNot player " + p, x, INDEX, () -> x.whyNot(p, 0));
        }
        same("nothing is changed", x.count(4), 0);
    }

    // promise 22
    private static void movesTo() {
        HourglassTag x = Games.withPlayers(0, 20, 5, 4, 2, 0);
        same("there", x.movesTo(0, 0), 0);
        same("wait, stride", x.movesTo(0, 1), 2);
        same("wait, wait, stride", x.movesTo(0, 2), 3);
        same("wait, turn, stride", x.movesTo(0, 8), 3);
        same("17 and 3 ran: 18 is too much, but not behind two waits", x.movesTo(0, 9), 3);
        same("4 are enough for 2 apart", x.movesTo(1, 7), 3);
        same("6 are too much", x.movesTo(1, 8), -1);
        same("no sand", x.movesTo(2, 1), -1);
        for (int t : NO_TOWERS) {
            refuses("movesTo tower " + t, x, INDEX, () -> x.movesTo(0, t));
        }
        for (int p : new int[] {-1, 3, Integer.MIN_VALUE, Integer.MAX_VALUE}) {
            refuses("movesTo player " + p, x, INDEX, () -> x.movesTo(p, 0));
        }
        x.set(1, 0);
        same("free", x.movesTo(2, 9), 1);
        same("nothing is changed", x.count(3), 0);
        x.height(1, 9);
        x.set(0, 1);
        same("waits, turns, climbs, goes on", x.movesTo(0, 9), 4);
        same("too little sand to climb", x.movesTo(1, 0), -1);
        x.set(2, 20);
        same("cannot turn, and waits too long", x.movesTo(0, 9), -1);
        x.set(0, 3);
        same("climbs behind 3 waits", x.movesTo(0, 1), 4);
        same("and has no turn left to go on", x.movesTo(0, 9), -1);
        x.set(2, 1);
        same("climbs behind a wait and a turn", x.movesTo(0, 1), 3);
        same("climbs, and goes on", x.movesTo(0, 9), 4);
    }

    private static void movesToGathersAndTurns() {
        HourglassTag x = Games.withPlayers(4, 8, 5, 0);
        x.set(0, 1);
        x.set(2, 0);
        x.set(1, 4);
        same("turn, stride", x.movesTo(0, 6), 2);
        same("turn, stride of one", x.movesTo(0, 5), 2);
        same("8 are not enough for 3 apart", x.movesTo(0, 7), -1);
        x.turnOver();
        x.rest();
        x.stride(5);
        same("left 4 on tower 4", x.tower(4, 1), 4);
        same("4 below and nothing above", x.playerOf(0, 2), 4);
        same("back, where 4 are gathered", x.movesTo(0, 4), 1);
        same("back, one runs, turn, 4 are below", x.movesTo(0, 3), 3);
        x.set(0, 4);
        same("back, all 4 run, stride", x.movesTo(0, 3), 2);
        same("what is left behind is out of reach", x.movesTo(0, 2), -1);
    }

    // promise 23
    private static void prey() {
        HourglassTag x = new HourglassTag();
        same("without players", x.prey(), 0);
        x.player(3, 30);
        same("alone", x.prey(), 0);
        x.player(4, 30);
        x.player(5, 30);
        x.player(3, 30);
        same("1 and 3 are near", x.prey(), 0b1010);
        x.set(3, 2);
        same("2 is near too", x.prey(), 0b1110);
        x.height(4, 1);
        same("2 is hidden", x.prey(), 0b1010);
        x.set(3, 0);
        same("3 on the same tower", x.prey(), 0b1000);
        x.rest();
        same("who is it is not on the move", x.prey(), 0b1000);
        x.set(3, 1);
        Games.rest(x, 3);
        x.tag(1);
        same("1 is it now, and reaches all", x.prey(), 0b1101);
    }

    // promise 24
    private static void lookout() {
        HourglassTag x = new HourglassTag();
        same("all see all", x.lookout(), 0);
        x.height(4, 1);
        same("4 sees all", x.lookout(), 4);
        x.height(6, 1);
        same("4 and 6 see all", x.lookout(), 4);
        x.height(6, 2);
        same("6 sees all", x.lookout(), 6);
        x.height(9, 9);
        same("6 and 9 see all", x.lookout(), 6);
        x.height(8, 8);
        same("6, 8 and 9 see all", x.lookout(), 6);
        x.height(7, 3);
        x.height(6, 0);
        same("4 sees all again", x.lookout(), 4);
        x.height(4, 0);
        x.height(5, 2);
        same("5 sees all", x.lookout(), 5);
    }

    // promise 25
    private static void belowShare() {
        HourglassTag x = new HourglassTag();
        CHECK.same("without players", x.belowShare(), 0.0);
        x.player(0, 0);
        CHECK.same("without sand", x.belowShare(), 0.0);
        x.player(0, 1);
        x.rest();
        x.rest();
        CHECK.same("one grain, below", x.belowShare(), 1.0);
        x = Games.withPlayers(0, 0, 0, 9);
        CHECK.same("all above", x.belowShare(), 0.0);
        Games.rest(x, 2);
        CHECK.same("a third", x.belowShare(), 3.0 / 9.0);
        x.rest();
        x.stride(1);
        CHECK.same("without what lies on towers", x.belowShare(), 4.0 / 7.0);
        Games.rest(x, 4);
        CHECK.same("all below", x.belowShare(), 1.0);
    }

    // promise 26
    private static void digest() {
        HourglassTag x = new HourglassTag();
        same("new", x.digest(), DigestSentences.due(x, 0, 0, ""));
        HourglassTag grain = Games.withPlayers(0, 200, 0, 200, 0, 200, 0, 200);
        grain.set(0, 1);
        grain.rest();
        same("with the smallest share", grain.digest(), DigestSentences.due(grain, 0, 0, ""));
        same("the smallest share", grain.belowShare() == 1.0 / 800.0 ? 1 : 0, 1);
        x.player(0, 20);
        x.player(3, 30);
        x.player(9, 200);
        x.height(1, 4);
        Games.rest(x, 5);
        x.turnOver();
        Games.type(x, "ws1!");
        same("with a buffer", x.digest(), DigestSentences.due(x, 0, 0, "ws1!"));
        x.keep(1);
        same("with slot 1", x.digest(), DigestSentences.due(x, 0, 1, "ws1!"));
        x.keep(0);
        x.clearBuffer();
        x.player(4, 1);
        x.set(3, 9);
        same("with both slots", x.digest(), DigestSentences.due(x, 1, 1, ""));
        same("again the same", x.digest(), DigestSentences.due(x, 1, 1, ""));
        HourglassTag other = Games.withPlayers(0, 7);
        long before = other.digest();
        other.rest();
        other.undo();
        same("comes back with undo", other.digest(), before);
    }

    /** 9999 moves lie far behind the 512th call, where the document promises nothing: the guard is tested, though. */
    private static void mostMoves() {
        HourglassTag x = Games.withPlayers(3, 30);
        Games.rest(x, 9999);
        same("9999 moves", x.count(3), 9999);
        refuses("rest", x, STATE, x::rest);
        refuses("stride", x, STATE, () -> x.stride(4));
        refuses("stride to no tower", x, INDEX, () -> x.stride(10));
        refuses("turnOver", x, STATE, x::turnOver);
        refuses("tag", x, STATE, () -> x.tag(0));
        refuses("tag of no player", x, INDEX, () -> x.tag(1));
        Games.type(x, "w");
        same("run does none", x.run(), 0);
        x.undo();
        x.undo();
        same("one was undone", x.rest(), 0);
    }
}
