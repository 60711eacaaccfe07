import java.util.function.Consumer;
import java.util.function.Supplier;

/** The tests of the sentences of the promises 1 to 15. */
final class CallSentences {
    private static final String TO_LEAVE_NONE = "";
    private static final String SAVE = "past.save(game);";
    private static final String NO_TOWER = "Throws `IndexOutOfBoundsException` if there is no such tower";
    private static final String NO_PLAYER_OR_9999 =
        "Throws `IllegalStateException` if there is no player, or 9999 moves were made";
    private static final String ANSWERS_REASON = "Returns 0, or the reason why it is refused.";

    private CallSentences() {
    }

    static void addTo(Sentences all) {
        newObject(all);
        height(all);
        player(all);
        set(all);
        rest(all);
        stride(all);
        turnOver(all);
        tag(all);
        buffer(all);
        run(all);
        keep(all);
        goBack(all);
        undo(all);
    }

    private static void newObject(Sentences all) {
        String p = "Promise 1";
        all.test(p, "Creates ten towers", CallSentences::promise1_tenTowers)
            .broken("TOWERS = 10", "TOWERS = 9")
            .broken("settings[i] = SETTING_AT_FIRST[i];", "settings[i] = SETTING_AT_FIRST[i]; lying[i] = 1;");
        all.test(p, "without players,", CallSentences::promise1_withoutPlayers)
            .broken("int players = 0;", "int players = 1;");
        all.test(p, "with empty slots", CallSentences::promise1_emptySlots)
            .broken("slots[i] = new Game();", "slots[i] = new Game(); slotFilled[0] = true;")
            .broken("slots[i] = new Game();", "slots[i] = new Game(); slotFilled[1] = true;");
        all.test(p, "and an empty buffer.", CallSentences::promise1_emptyBuffer)
            .broken("int length = 0;", "int length = 1;");
    }

    private static void promise1_tenTowers(Check c) {
        HourglassTag x = new HourglassTag();
        for (int tower = 0; tower <= 9; tower++) {
            c.same("height", x.tower(tower, 0), 0);
            c.same("sand", x.tower(tower, 1), 0);
            c.same("players", x.tower(tower, 2), 0);
            c.same("seen", x.tower(tower, 3), 1023);
        }
        c.throwsOn("an eleventh", Games.INDEX, Games::empty, y -> y.tower(10, 0));
    }

    private static void promise1_withoutPlayers(Check c) {
        HourglassTag x = new HourglassTag();
        for (int what = 0; what <= 10; what++) {
            c.same("count " + what, x.count(what), what == 1 || what == 2 ? -1 : 0);
        }
        c.throwsOn("player 0", Games.INDEX, Games::empty, y -> y.playerOf(0, 0));
        c.throwsOn("nothing saved", Games.STATE, Games::empty, HourglassTag::undo);
    }

    private static void promise1_emptySlots(Check c) {
        c.throwsOn("slot 0", Games.STATE, Games::empty, x -> x.goBack(0));
        c.throwsOn("slot 1", Games.STATE, Games::empty, x -> x.goBack(1));
    }

    private static void promise1_emptyBuffer(Check c) {
        c.same("the first character", new HourglassTag().append('w'), 1);
        c.same("clearBuffer", new HourglassTag().clearBuffer(), 0);
        c.same("firstError", new HourglassTag().firstError(), 0);
        c.throwsOn("run", Games.ARGUMENT, Games::empty, HourglassTag::run);
    }

    private static void height(Sentences all) {
        String p = "Promise 2";
        String call = "public int height(";
        all.test(p, "Changes the height of a tower.", CallSentences::promise2_changesTheHeight)
            .broken("game.heights[tower] = height;", TO_LEAVE_NONE)
            .broken("game.heights[tower] = height;", "game.heights[9 - tower] = height;");
        all.test(p, "Undoable.", c -> Games.undoable(c, "height", Games::young, x -> x.height(5, 9)))
            .broken(call, SAVE, TO_LEAVE_NONE);
        all.test(p, "- `tower`: 0 to 9", CallSentences::promise2_towerIs0To9)
            .broken("return tower >= 0 && tower < TOWERS", "return tower >= 1 && tower < TOWERS")
            .broken("return tower >= 0 && tower < TOWERS", "return tower >= 0 && tower < TOWERS - 1");
        all.test(p, "- `height`: 0 to 9", CallSentences::promise2_heightIs0To9)
            .broken("if (height < 0 || height > HIGHEST)", "if (height < 0 || height >= HIGHEST)")
            .broken("if (height < 0 || height > HIGHEST)", "if (height <= 0 || height > HIGHEST)");
        all.test(p, "Returns the height before.", CallSentences::promise2_returnsTheHeightBefore)
            .broken(call, "return before;", "return height;");
        all.test(p, NO_TOWER, c -> c.throwsOutside("height of tower", Games.INDEX, Games::busy, 0, 9,
                (x, tower) -> x.height(tower, 5)))
            .broken(call, "if (!isTower(tower)) {", "if (tower < 0) {")
            .broken(call, "if (!isTower(tower)) {", "if (tower >= TOWERS) {");
        all.test(p, "Throws `IllegalArgumentException` if height is out of range",
                c -> c.throwsOutside("height", Games.ARGUMENT, Games::busy, 0, 9, (x, height) -> x.height(9, height)))
            .broken("if (height < 0 || height > HIGHEST)", "if (height > HIGHEST)")
            .broken("if (height < 0 || height > HIGHEST)", "if (height < 0)")
            .broken("if (height < 0 || height > HIGHEST)", "if (height < -1 || height > HIGHEST)")
            .broken("if (height < 0 || height > HIGHEST)", "if (height < 0 || height > HIGHEST + 1)");
    }

    private static void promise2_changesTheHeight(Check c) {
        for (int tower = 0; tower <= 9; tower++) {
            HourglassTag x = new HourglassTag();
            x.height(tower, 7);
            x.height(tower, 7);
            for (int other = 0; other <= 9; other++) {
                c.same("height of " + other, x.tower(other, 0), other == tower ? 7 : 0);
            }
            x.height(tower, 0);
            c.same("0 again", x.tower(tower, 0), 0);
        }
    }

    private static void promise2_towerIs0To9(Check c) {
        HourglassTag x = new HourglassTag();
        c.same("the first", x.height(0, 3), 0);
        c.same("the last", x.height(9, 4), 0);
        c.same("height of the first", x.tower(0, 0), 3);
        c.same("height of the last", x.tower(9, 0), 4);
    }

    private static void promise2_heightIs0To9(Check c) {
        HourglassTag x = new HourglassTag();
        c.same("the most", x.height(5, 9), 0);
        c.same("the least", x.height(5, 0), 9);
    }

    private static void promise2_returnsTheHeightBefore(Check c) {
        HourglassTag x = new HourglassTag();
        int before = 0;
        for (int height : new int[] {9, 9, 1, 0, 0, 5}) {
            c.same("the height before", x.height(4, height), before);
            before = height;
        }
    }

    private static void player(Sentences all) {
        String p = "Promise 3";
        String call = "public int player(";
        all.test(p, "A player comes, and gathers nothing by that.", CallSentences::promise3_comesAndGathersNothing)
            .broken("players++;", TO_LEAVE_NONE)
            .broken("brought += sand;", "brought += sand; above[number] += lying[tower]; lying[tower] = 0;");
        all.test(p, "Undoable.", c -> Games.undoable(c, "player", Games::young, x -> x.player(4, 200)))
            .broken(call, SAVE, TO_LEAVE_NONE);
        all.test(p, "- `tower`: 0 to 9", CallSentences::promise3_towerIs0To9)
            .broken("place[number] = tower;", "place[number] = Math.min(8, tower);")
            .broken(call, "if (!isTower(tower)) {", "if (tower < 1 || tower > 9) {");
        all.test(p, "- `sand`: 0 to 200, all of it above", CallSentences::promise3_sandIs0To200AllAbove)
            .broken("if (sand < 0 || sand > MOST_SAND)", "if (sand <= 0 || sand > MOST_SAND)")
            .broken("if (sand < 0 || sand > MOST_SAND)", "if (sand < 0 || sand >= MOST_SAND)")
            .broken("above[number] = sand;", "above[number] = sand / 2; below[number] = sand - sand / 2;");
        all.test(p, "Returns the number.", CallSentences::promise3_returnsTheNumber)
            .broken("return number;", "return players;")
            .broken("return number;", "return 0;");
        all.test(p, NO_TOWER, c -> c.throwsOutside("player on", Games.INDEX, Games::busy, 0, 9,
                (x, tower) -> x.player(tower, 5)))
            .broken(call, "if (!isTower(tower)) {", "if (tower < 0) {")
            .broken(call, "if (!isTower(tower)) {", "if (tower >= TOWERS) {");
        all.test(p, "Throws `IllegalArgumentException` if sand is out of range",
                c -> c.throwsOutside("player with", Games.ARGUMENT, Games::busy, 0, 200,
                    (x, sand) -> x.player(9, sand)))
            .broken("if (sand < 0 || sand > MOST_SAND)", "if (sand > MOST_SAND)")
            .broken("if (sand < 0 || sand > MOST_SAND)", "if (sand < 0)")
            .broken("if (sand < 0 || sand > MOST_SAND)", "if (sand < -1 || sand > MOST_SAND)")
            .broken("if (sand < 0 || sand > MOST_SAND)", "if (sand < 0 || sand > MOST_SAND + 1)");
        all.test(p, "Throws `IllegalStateException` if there are 4 players", CallSentences::promise3_throwsWith4Players)
            .broken("if (game.players >= MOST_PLAYERS)", "if (game.players >= MOST_PLAYERS - 1)")
            .broken("if (game.players >= MOST_PLAYERS)", "if (game.players > MOST_PLAYERS)");
    }

    private static void promise3_comesAndGathersNothing(Check c) {
        HourglassTag x = Games.alone(3, 20);
        x.stride(4);
        c.same("2 lie on 3", x.tower(3, 1), 2);
        x.player(3, 10);
        c.same("players", x.count(0), 2);
        c.same("who came has only what was brought", Games.glass(x, 1), "3/10/0");
        c.same("2 still lie on 3", x.tower(3, 1), 2);
        x.rest();
        x.rest();
        c.same("nor later", Games.glass(x, 1), "3/7/3");
        c.same("2 lie there still", x.tower(3, 1), 2);
    }

    private static void promise3_towerIs0To9(Check c) {
        for (int tower = 0; tower <= 9; tower++) {
            HourglassTag x = new HourglassTag();
            c.same("player on " + tower, x.player(tower, 5), 0);
            c.same("stands there", x.playerOf(0, 0), tower);
        }
    }

    private static void promise3_sandIs0To200AllAbove(Check c) {
        for (int sand : new int[] {0, 1, 199, 200}) {
            c.same("with " + sand, Games.glass(Games.withPlayers(5, sand), 0), "5/" + sand + "/0");
        }
        HourglassTag x = Games.withPlayers(5, 200, 5, 200, 5, 200, 5, 200);
        c.same("the most of 4 players", x.count(7), 800);
    }

    private static void promise3_returnsTheNumber(Check c) {
        HourglassTag x = new HourglassTag();
        for (int number = 0; number < 4; number++) {
            c.same("number", x.player(5, 0), number);
        }
        x.undo();
        x.undo();
        c.same("behind undo", x.player(5, 0), 2);
    }

    private static void promise3_throwsWith4Players(Check c) {
        c.throwsOn("a fifth", Games.STATE, Games::full, x -> x.player(0, 0));
        c.throwsOn("a fifth with the most", Games.STATE, Games::full, x -> x.player(9, 200));
        HourglassTag x = Games.withPlayers(1, 1, 2, 2, 3, 3);
        c.same("a fourth", x.player(4, 4), 3);
    }

    private static void set(Sentences all) {
        String p = "Promise 4";
        String call = "public int set(";
        all.test(p, "Changes a setting.", CallSentences::promise4_changesASetting)
            .broken("game.settings[setting] = value;", TO_LEAVE_NONE)
            .broken("game.settings[setting] = value;", "game.settings[3 - setting] = value;");
        all.test(p, "Undoable.", c -> Games.undoable(c, "set", Games::young, x -> x.set(2, 20)))
            .broken(call, SAVE, TO_LEAVE_NONE);
        all.test(p, "- `setting`: 0 to 3", CallSentences::promise4_settingIs0To3)
            .broken("return setting >= 0 && setting < SETTINGS", "return setting >= 1 && setting < SETTINGS")
            .broken("return setting >= 0 && setting < SETTINGS", "return setting >= 0 && setting < SETTINGS - 1");
        all.test(p, "- `value`: the new value", CallSentences::promise4_valueIsTheNewOne)
            .broken("game.settings[setting] = value;", "game.settings[setting] = Math.min(value, 19);")
            .broken("value < SETTING_LEAST[setting] ||", "value <= SETTING_LEAST[setting] ||")
            .broken("|| value > SETTING_MOST[setting]", "|| value >= SETTING_MOST[setting]");
        all.test(p, "Returns the previous value.", CallSentences::promise4_returnsThePreviousValue)
            .broken(call, "return before;", "return value;");
        all.test(p, "Throws `IndexOutOfBoundsException` if there is no such setting",
                c -> c.throwsOutside("set", Games.INDEX, Games::busy, 0, 3, (x, setting) -> x.set(setting, 5)))
            .broken(call, "if (!isSetting(setting)) {", "if (setting < 0) {")
            .broken(call, "if (!isSetting(setting)) {", "if (setting >= SETTINGS) {");
        all.test(p, "Throws `IllegalArgumentException` if value is out of range",
                CallSentences::promise4_throwsIfValueIsOutOfRange)
            .broken("if (value < SETTING_LEAST[setting] || ", "if (")
            .broken("value < SETTING_LEAST[setting] || value > SETTING_MOST[setting]",
                "value < SETTING_LEAST[setting]")
            .broken("value < SETTING_LEAST[setting] || value > SETTING_MOST[setting]", "value < 0 || value > 20")
            .broken("value < SETTING_LEAST[setting] || value > SETTING_MOST[setting]",
                "value < SETTING_LEAST[setting] - 1 || value > SETTING_MOST[setting]")
            .broken("value < SETTING_LEAST[setting] || value > SETTING_MOST[setting]",
                "value < SETTING_LEAST[setting] || value > SETTING_MOST[setting] + 1");
    }

    private static final int[] LEAST = {1, 0, 0, 0};
    private static final int[] MOST = {20, 9, 20, 9};
    private static final int[] AT_FIRST = {3, 2, 1, 1};

    private static void promise4_changesASetting(Check c) {
        for (int setting = 0; setting <= 3; setting++) {
            HourglassTag x = new HourglassTag();
            x.set(setting, 7);
            x.set(setting, 7);
            for (int other = 0; other <= 3; other++) {
                c.same("setting " + other, x.setting(other), other == setting ? 7 : AT_FIRST[other]);
            }
        }
    }

    private static void promise4_settingIs0To3(Check c) {
        HourglassTag x = new HourglassTag();
        c.same("the first", x.set(0, 5), 3);
        c.same("the last", x.set(3, 6), 1);
        c.same("the first is", x.setting(0), 5);
        c.same("the last is", x.setting(3), 6);
    }

    private static void promise4_valueIsTheNewOne(Check c) {
        for (int setting = 0; setting <= 3; setting++) {
            HourglassTag x = new HourglassTag();
            for (int value = LEAST[setting]; value <= MOST[setting]; value++) {
                x.set(setting, value);
                c.same("setting " + setting, x.setting(setting), value);
            }
        }
    }

    private static void promise4_returnsThePreviousValue(Check c) {
        for (int setting = 0; setting <= 3; setting++) {
            HourglassTag x = new HourglassTag();
            c.same("at first", x.set(setting, MOST[setting]), AT_FIRST[setting]);
            c.same("the most", x.set(setting, LEAST[setting]), MOST[setting]);
            c.same("the least", x.set(setting, LEAST[setting]), LEAST[setting]);
            c.same("the same", x.set(setting, 5), LEAST[setting]);
        }
    }

    private static void promise4_throwsIfValueIsOutOfRange(Check c) {
        for (int i = 0; i <= 3; i++) {
            int setting = i;
            c.throwsOutside("set " + setting, Games.ARGUMENT, Games::busy, LEAST[setting], MOST[setting],
                (x, value) -> x.set(setting, value));
        }
    }

    private static void rest(Sentences all) {
        String p = "Promise 5";
        String call = "public int rest(";
        all.test(p, "The player on the move waits.", CallSentences::promise5_thePlayerOnTheMoveWaits)
            .broken(call, "return game.endMove();", "return Math.min(game.settings[RUNNING], game.above[game.onMove]);")
            .broken(call, "return game.endMove();", "game.onMove = 0; return game.endMove();");
        all.test(p, "Undoable.", c -> Games.undoable(c, "rest", Games::young, HourglassTag::rest))
            .broken(call, SAVE, TO_LEAVE_NONE);
        all.test(p, "Returns how many grains run.", CallSentences::promise5_returnsHowManyGrainsRun)
            .broken("return grains;", "return settings[RUNNING];")
            .broken("return grains;", "return 0;");
        all.test(p, NO_PLAYER_OR_9999, c -> throwsWithoutPlayerOrBehind9999(c, HourglassTag::rest))
            .broken(call, "if (!game.takesMoves()) {", "if (game.moves >= MOST_MOVES) {")
            .broken(call, "if (!game.takesMoves()) {", "if (game.players == 0) {")
            .broken("MOST_MOVES = 9999", "MOST_MOVES = 9998")
            .broken("MOST_MOVES = 9999", "MOST_MOVES = 10000");
    }

    /** The 9999th move is made, the next one is not; both lie behind the 512 calls for which the document speaks. */
    private static void throwsWithoutPlayerOrBehind9999(Check c, Consumer<HourglassTag> call) {
        c.throwsOn("without players", Games.STATE, Games::empty, call);
        c.throwsOn("without players any more", Games.STATE, () -> {
            HourglassTag x = Games.withPlayers(3, 20);
            x.undo();
            return x;
        }, call);
        c.throwsOn("behind 9999 moves", Games.STATE, Games::with9999Moves, call);
        HourglassTag x = Games.with9999Moves();
        x.undo();
        c.same("9998 moves", x.count(3), 9998);
        call.accept(x);
        c.same("the 9999th", x.count(3) + x.count(4), 9999);
    }

    private static void promise5_thePlayerOnTheMoveWaits(Check c) {
        HourglassTag x = Games.withPlayers(4, 50, 4, 50, 4, 50);
        int[] waits = {0, 0, 0};
        for (int move = 0; move < 8; move++) {
            x.rest();
            waits[move % 3]++;
            for (int player = 0; player < 3; player++) {
                int ran = 3 * waits[player];
                c.same("player " + player, Games.glass(x, player), "4/" + (50 - ran) + "/" + ran);
                c.same("moves", x.playerOf(player, 4), waits[player]);
            }
        }
        c.same("on the move", x.count(1), 2);
    }

    private static void promise5_returnsHowManyGrainsRun(Check c) {
        HourglassTag x = Games.withPlayers(4, 0, 4, 2, 4, 3, 4, 4);
        int[] due = {0, 2, 3, 3, 0, 0, 0, 1, 0, 0, 0, 0};
        for (int grains : due) {
            c.same("rest", x.rest(), grains);
        }
        HourglassTag all = Games.withPlayers(4, 200);
        all.set(0, 20);
        for (int i = 0; i < 11; i++) {
            c.same("rest of 200", all.rest(), i < 10 ? 20 : 0);
        }
    }

    private static void stride(Sentences all) {
        String p = "Promise 6";
        String call = "public int stride(";
        all.test(p, "The player on the move strides.", CallSentences::promise6_thePlayerOnTheMoveStrides)
            .broken("place[onMove] = tower;", TO_LEAVE_NONE)
            .broken("int moveByStride(", "int reason", "onMove = 0; int reason");
        all.test(p, "Undoable, also if it is refused.", CallSentences::promise6_undoableAlsoIfRefused)
            .broken(call, SAVE, TO_LEAVE_NONE)
            .broken(call, SAVE, "if (game.refusalOfStride(game.onMove, tower) == 0) { past.save(game); }")
            .broken(call, SAVE, "if (game.refusalOfStride(game.onMove, tower) != 0) { past.save(game); }");
        all.test(p, "- `tower`: 0 to 9", CallSentences::promise6_towerIs0To9)
            .broken(call, "if (!isTower(tower)) {", "if (tower < 1 || tower > 9) {")
            .broken(call, "if (!isTower(tower)) {", "if (tower < 0 || tower > 8) {");
        all.test(p, ANSWERS_REASON, CallSentences::promise6_returns0OrTheReason)
            .broken(call, "return game.moveByStride(tower);", "return Math.min(2, game.moveByStride(tower));")
            .broken("int moveByStride(", "return NOT_REFUSED;", "return 1;")
            .broken(call, "return game.moveByStride(tower);", "game.moveByStride(tower); return 0;");
        all.test(p, NO_TOWER, CallSentences::promise6_throwsIfNoSuchTower)
            .broken(call, "if (!isTower(tower)) {", "if (tower < 0) {")
            .broken(call, "if (!isTower(tower)) {", "if (tower >= TOWERS) {");
        all.test(p, NO_PLAYER_OR_9999, c -> throwsWithoutPlayerOrBehind9999(c, x -> x.stride(3)))
            .broken(call, "if (!game.takesMoves()) {", "if (game.moves >= MOST_MOVES) {")
            .broken(call, "if (!game.takesMoves()) {", "if (game.players == 0) {");
    }

    private static void promise6_thePlayerOnTheMoveStrides(Check c) {
        HourglassTag x = Games.pair(4, 20);
        x.stride(5);
        c.same("player 0", Games.glass(x, 0), "5/97/21");
        c.same("player 1 stays", Games.glass(x, 1), "4/100/20");
        x.stride(2);
        c.same("player 1", Games.glass(x, 1), "2/97/19");
        c.same("player 0 stays", Games.glass(x, 0), "5/97/21");
        c.same("4 is left with both prices", x.tower(4, 1), 6);
    }

    private static void promise6_undoableAlsoIfRefused(Check c) {
        Games.undoable(c, "stride", () -> Games.alone(4, 20), x -> x.stride(9));
        Games.undoable(c, "stride refused for 1", Games::young, x -> x.stride(4));
        Games.undoable(c, "stride refused for 2", () -> {
            HourglassTag x = Games.young();
            x.height(5, 1);
            return x;
        }, x -> x.stride(6));
        Games.undoable(c, "stride refused for 3", Games::young, x -> x.stride(5));
    }

    private static void promise6_towerIs0To9(Check c) {
        for (int tower = 0; tower <= 9; tower++) {
            HourglassTag x = Games.alone(tower == 5 ? 4 : 5, 20);
            c.same("stride to " + tower, x.stride(tower), 0);
            c.same("stands there", x.playerOf(0, 0), tower);
        }
    }

    private static void promise6_returns0OrTheReason(Check c) {
        HourglassTag x = Games.alone(4, 3);
        x.height(6, 1);
        c.same("1", x.stride(4), 1);
        c.same("2", x.stride(7), 2);
        c.same("3", x.stride(6), 3);
        c.same("0", x.stride(5), 0);
    }

    private static void promise6_throwsIfNoSuchTower(Check c) {
        c.throwsOutside("stride", Games.INDEX, Games::busy, 0, 9, HourglassTag::stride);
        c.throwsOutside("stride without players", Games.INDEX, Games::empty, 0, 9, HourglassTag::stride);
    }

    private static void turnOver(Sentences all) {
        String p = "Promise 7";
        String call = "public int turnOver(";
        all.test(p, "The player on the move turns the glass over.", CallSentences::promise7_thePlayerOnTheMoveTurns)
            .broken("int moveByTurn(", "above[onMove] = below[onMove];", TO_LEAVE_NONE)
            .broken("int moveByTurn()", "if (", "onMove = 0; if (");
        all.test(p, "Undoable, also if it is refused.", CallSentences::promise7_undoableAlsoIfRefused)
            .broken(call, SAVE, TO_LEAVE_NONE)
            .broken(call, SAVE, "if (game.settings[TURNING] <= game.below[game.onMove]) { past.save(game); }")
            .broken(call, SAVE, "if (game.settings[TURNING] > game.below[game.onMove]) { past.save(game); }");
        all.test(p, ANSWERS_REASON, CallSentences::promise7_returns0OrTheReason)
            .broken("int moveByTurn(", "return NOT_REFUSED;", "return 1;")
            .broken(call, "return game.moveByTurn();", "return Math.min(3, game.moveByTurn());");
        all.test(p, NO_PLAYER_OR_9999, c -> throwsWithoutPlayerOrBehind9999(c, HourglassTag::turnOver))
            .broken(call, "if (!game.takesMoves()) {", "if (game.moves >= MOST_MOVES) {")
            .broken(call, "if (!game.takesMoves()) {", "if (game.players == 0) {");
    }

    private static void promise7_thePlayerOnTheMoveTurns(Check c) {
        HourglassTag x = Games.pair(4, 20);
        x.turnOver();
        c.same("player 0", Games.glass(x, 0), "4/16/103");
        c.same("player 1 does not", Games.glass(x, 1), "4/100/20");
        x.turnOver();
        c.same("player 1", Games.glass(x, 1), "4/16/103");
        c.same("player 0 does not", Games.glass(x, 0), "4/16/103");
        c.same("both paid", x.tower(4, 1), 2);
    }

    private static void promise7_undoableAlsoIfRefused(Check c) {
        Games.undoable(c, "turnOver", () -> Games.alone(4, 20), HourglassTag::turnOver);
        Games.undoable(c, "turnOver refused for 4", Games::young, HourglassTag::turnOver);
    }

    private static void promise7_returns0OrTheReason(Check c) {
        c.same("0", Games.alone(4, 1).turnOver(), 0);
        c.same("4", Games.alone(4, 0).turnOver(), 4);
    }

    private static void tag(Sentences all) {
        String p = "Promise 8";
        String call = "public int tag(";
        all.test(p, "The player on the move tags another one.", CallSentences::promise8_thePlayerOnTheMoveTags)
            .broken("tagsMade[onMove]++;", "tagsMade[other]++;")
            .broken("timesTagged[other]++;", "timesTagged[onMove]++;")
            .broken("int moveByTag(int other)", "int reason", "onMove = it; int reason");
        all.test(p, "Undoable, also if it is refused.", CallSentences::promise8_undoableAlsoIfRefused)
            .broken(call, SAVE, TO_LEAVE_NONE)
            .broken(call, SAVE, "if (game.refusalOfTag(game.onMove, player) == 0) { past.save(game); }")
            .broken(call, SAVE, "if (game.refusalOfTag(game.onMove, player) != 0) { past.save(game); }");
        all.test(p, "- `player`: a player", CallSentences::promise8_playerIsAPlayer)
            .broken("return player >= 0 && player < players;", "return player >= 1 && player < players;")
            .broken("return player >= 0 && player < players;", "return player >= 0 && player < players - 1;");
        all.test(p, ANSWERS_REASON, CallSentences::promise8_returns0OrTheReason)
            .broken(call, "return game.moveByTag(player);", "return Math.min(6, game.moveByTag(player));")
            .broken("int moveByTag(", "return NOT_REFUSED;", "return 1;")
            .broken(call, "return game.moveByTag(player);", "game.moveByTag(player); return 0;");
        all.test(p, "Throws `IndexOutOfBoundsException` if there is no such player",
                CallSentences::promise8_throwsIfNoSuchPlayer)
            .broken("return player >= 0 && player < players;", "return player >= 0 && player < MOST_PLAYERS;")
            .broken("return player >= 0 && player < players;", "return player >= 0 && player <= players;")
            .broken("return player >= 0 && player < players;", "return player < players;");
        all.test(p, "Throws `IllegalStateException` if 9999 moves were made", CallSentences::promise8_throwsBehind9999)
            .broken(call, "if (!game.takesMoves()) {", "if (game.players == 0) {")
            .broken("MOST_MOVES = 9999", "MOST_MOVES = 9998");
    }

    private static void promise8_thePlayerOnTheMoveTags(Check c) {
        HourglassTag x = Games.pair(4, 10);
        x.player(5, 40);
        x.tag(1);
        c.same("5 taken", Games.glass(x, 1), "4/100/5");
        c.same("5 put above, and 3 run", Games.glass(x, 0), "4/102/13");
        c.same("tags made by 0", x.playerOf(0, 5), 1);
        c.same("times that 1 was tagged", x.playerOf(1, 6), 1);
        x.tag(2);
        c.same("nothing to take", Games.glass(x, 2), "5/40/0");
        c.same("3 run", Games.glass(x, 1), "4/97/8");
        c.same("tags made by 1", x.playerOf(1, 5), 1);
        c.same("tags", x.count(5), 2);
        x.rest();
        c.same("0 is not it any more", x.tag(1), 5);
        c.same("2 is it still", x.count(2), 2);
    }

    private static void promise8_undoableAlsoIfRefused(Check c) {
        Games.undoable(c, "tag", () -> Games.withPlayers(4, 9, 4, 9), x -> x.tag(1));
        Games.undoable(c, "tag refused for 5", Games::young, x -> x.tag(0));
        Games.undoable(c, "tag refused for 6", () -> Games.withPlayers(4, 9), x -> x.tag(0));
        Games.undoable(c, "tag refused for 7", () -> Games.withPlayers(4, 9, 6, 9), x -> x.tag(1));
        Games.undoable(c, "tag refused for 2", () -> {
            HourglassTag x = Games.withPlayers(4, 9, 6, 9);
            x.height(5, 1);
            return x;
        }, x -> x.tag(1));
    }

    private static void promise8_playerIsAPlayer(Check c) {
        for (int players = 1; players <= 4; players++) {
            HourglassTag x = new HourglassTag();
            for (int i = 0; i < players; i++) {
                x.player(5, 10);
            }
            c.same("the first of " + players, x.tag(0), 6);
            c.same("the last of " + players, x.tag(players - 1), players == 1 ? 6 : 0);
        }
    }

    private static void promise8_returns0OrTheReason(Check c) {
        HourglassTag x = Games.withPlayers(4, 10, 6, 10, 5, 10);
        c.same("6", x.tag(0), 6);
        c.same("7", x.tag(1), 7);
        x.height(5, 1);
        c.same("2", x.tag(1), 2);
        c.same("0", x.tag(2), 0);
        c.same("5", x.tag(0), 5);
    }

    private static void promise8_throwsIfNoSuchPlayer(Check c) {
        c.throwsOutside("tag of none", Games.INDEX, Games::empty, 0, -1, HourglassTag::tag);
        c.throwsOn("tag of none", Games.INDEX, Games::empty, x -> x.tag(0));
        c.throwsOutside("tag of 1", Games.INDEX, () -> Games.withPlayers(4, 9), 0, 0, HourglassTag::tag);
        c.throwsOutside("tag of 3", Games.INDEX, Games::busy, 0, 2, HourglassTag::tag);
        c.throwsOutside("tag of 4", Games.INDEX, Games::full, 0, 3, HourglassTag::tag);
    }

    private static void promise8_throwsBehind9999(Check c) {
        c.throwsOn("tag", Games.STATE, Games::with9999Moves, x -> x.tag(0));
        HourglassTag x = Games.withPlayers(4, 9, 4, 9);
        Games.rest(x, 9998);
        c.same("the 9999th move", x.tag(1), 0);
        c.same("moves", x.count(3), 9999);
    }

    private static void buffer(Sentences all) {
        String p = "Promise 9";
        all.test(p, "Appends a character to the buffer.", CallSentences::promise9_appendsACharacter)
            .broken("codes[length] = code;", "codes[length] = 'w';")
            .broken("codes[length] = code;", "codes[0] = code;");
        all.test(p, "- `code`: the character code, 33 to 126", CallSentences::promise9_codeIs33To126)
            .broken("FIRST_CODE = 33", "FIRST_CODE = 34")
            .broken("LAST_CODE = 126", "LAST_CODE = 125")
            .broken("codes[length] = code;", "codes[length] = code & 63;");
        all.test(p, "Returns the new length of the buffer.", CallSentences::promise9_returnsTheNewLength)
            .broken("int add(int code)", "return length;", "return length - 1;")
            .broken("int add(int code)", "return length;", "return Math.min(length, 59);");
        all.test(p, "Throws `IllegalArgumentException` if code is not 33 to 126",
                CallSentences::promise9_throwsIfCodeIsNot33To126)
            .broken("FIRST_CODE = 33", "FIRST_CODE = 32")
            .broken("LAST_CODE = 126", "LAST_CODE = 127")
            .broken("if (code < Text.FIRST_CODE || code > Text.LAST_CODE)", "if (code < Text.FIRST_CODE)")
            .broken("if (code < Text.FIRST_CODE || code > Text.LAST_CODE)", "if (code > Text.LAST_CODE)");
        all.test(p, "Throws `IllegalStateException` if the buffer has 60 characters",
                CallSentences::promise9_throwsIfTheBufferIsFull)
            .broken("if (text.length >= Text.LONGEST)", "if (text.length >= Text.LONGEST - 1)")
            .broken("if (text.length >= Text.LONGEST)", "if (text.length > Text.LONGEST)");
        p = "Promise 10";
        all.test(p, "Clears the buffer.", CallSentences::promise10_clearsTheBuffer)
            .broken("int empty()", "length = 0;", TO_LEAVE_NONE)
            .broken("int empty()", "length = 0;", "length = Math.max(0, length - 59);");
        all.test(p, "Returns the length that it had.", CallSentences::promise10_returnsTheLengthThatItHad)
            .broken("int empty()", "return before;", "return length;")
            .broken("int empty()", "return before;", "return Math.max(1, before);");
        p = "Promise 11";
        all.test(p, "Finds the first syntax error of the buffer.", CallSentences::promise11_findsTheFirstError)
            .broken("int firstWrong()", "return i;", "return length - 1;")
            .broken("public int firstError(", "return text.firstWrong();",
                "int at = text.firstWrong(); text.length = at; return at;");
        all.test(p, "Returns the index of the first character that is a syntax error;",
                CallSentences::promise11_returnsTheIndex)
            .broken("int firstWrong()", "return i;", "return i + 1;")
            .broken("int firstWrong()", "return i;", "return i > 0 && needsDigit(codes[i - 1]) ? i - 1 : i;");
        all.test(p, "the length of the buffer if there is none.", CallSentences::promise11_theLengthIfThereIsNone)
            .broken("int firstWrong()", "return length;", "return NONE;")
            .broken("int firstWrong()", "return length;", "return length > 0 ? length : NONE;")
            .broken("int firstWrong()", "return length;",
                "return length > 0 && needsDigit(codes[length - 1]) ? length - 1 : length;");
    }

    private static void promise9_appendsACharacter(Check c) {
        HourglassTag x = Games.withPlayers(4, 50);
        String text = "ws5os4";
        for (int i = 0; i < text.length(); i++) {
            c.same("appended", x.append(text.charAt(i)), i + 1);
        }
        x.append('!');
        c.same("the last one is no move", x.firstError(), 6);
        c.same("behind what was there", x.append('w'), 8);
        HourglassTag y = Games.withPlayers(4, 50);
        y.set(1, 0);
        c.same("each is there", Games.run(y, text), 4);
    }

    private static void promise9_codeIs33To126(Check c) {
        for (int code = 33; code <= 126; code++) {
            HourglassTag x = new HourglassTag();
            c.same("append " + code, x.append(code), 1);
            boolean begins = code == 'w' || code == 's' || code == 'o' || code == 't';
            c.same("is that character", x.firstError(), begins ? 1 : 0);
            HourglassTag y = new HourglassTag();
            y.append(33);
            c.same("each code leaves another digest", x.digest() == y.digest() ? 1 : 0, code == 33 ? 1 : 0);
        }
    }

    private static void promise9_returnsTheNewLength(Check c) {
        HourglassTag x = new HourglassTag();
        for (int length = 1; length <= 60; length++) {
            c.same("append", x.append(126), length);
        }
        x.clearBuffer();
        c.same("from the beginning", x.append(33), 1);
    }

    private static void promise9_throwsIfCodeIsNot33To126(Check c) {
        c.throwsOutside("append", Games.ARGUMENT, Games::busy, 33, 126, HourglassTag::append);
        c.throwsOutside("append to nothing", Games.ARGUMENT, Games::empty, 33, 126, HourglassTag::append);
        c.throwsOn("append 0", Games.ARGUMENT, Games::busy, x -> x.append(0));
        c.throwsOn("append -1", Games.ARGUMENT, Games::busy, x -> x.append(-1));
    }

    private static void promise9_throwsIfTheBufferIsFull(Check c) {
        c.throwsOn("the 61st", Games.STATE, Games::full, x -> x.append('w'));
        c.throwsOn("the 61st, 33", Games.STATE, Games::full, x -> x.append(33));
        c.throwsOn("the 61st, 126", Games.STATE, Games::full, x -> x.append(126));
        HourglassTag x = new HourglassTag();
        Games.type(x, "w".repeat(59));
        c.same("the 60th", x.append('w'), 60);
    }

    private static void promise10_clearsTheBuffer(Check c) {
        HourglassTag x = Games.full();
        x.clearBuffer();
        c.same("no character", x.firstError(), 0);
        c.same("nothing to clear", x.clearBuffer(), 0);
        c.same("append behind", x.append('!'), 1);
        c.same("which is the first", x.firstError(), 0);
        HourglassTag y = Games.full();
        y.clearBuffer();
        c.throwsOn("run of nothing", Games.ARGUMENT, () -> {
            HourglassTag z = Games.full();
            z.clearBuffer();
            return z;
        }, HourglassTag::run);
        c.same("all else stays", Games.looks(y), Games.looks(Games.full()));
    }

    private static void promise10_returnsTheLengthThatItHad(Check c) {
        c.same("an empty buffer", new HourglassTag().clearBuffer(), 0);
        for (int length = 0; length <= 60; length++) {
            HourglassTag x = new HourglassTag();
            Games.type(x, "x".repeat(length));
            c.same("length", x.clearBuffer(), length);
            c.same("cleared", x.clearBuffer(), 0);
        }
    }

    private static int errorOf(String text) {
        HourglassTag x = new HourglassTag();
        Games.type(x, text);
        return x.firstError();
    }

    private static void promise11_findsTheFirstError(Check c) {
        c.same("of three", errorOf("wx!s5y"), 1);
        c.same("of nothing but errors", errorOf("!!!"), 0);
        c.same("behind a whole game", errorOf("ws5ot3x"), 6);
        HourglassTag x = Games.busy();
        x.append('!');
        x.append('w');
        c.same("twice", x.firstError(), x.firstError());
        c.same("the buffer stays", x.clearBuffer(), 6);
    }

    private static void promise11_returnsTheIndex(Check c) {
        c.same("the first", errorOf("5"), 0);
        c.same("the first of 60", errorOf("x" + "w".repeat(59)), 0);
        c.same("the last of 60", errorOf("w".repeat(59) + "x"), 59);
        c.same("the digit of no tower", errorOf("wsx"), 2);
        c.same("the digit of no player", errorOf("wt4"), 2);
        c.same("a letter where a digit is due", errorOf("ss"), 1);
        c.same("a digit too many", errorOf("s12"), 2);
        c.same("a digit too many behind a player", errorOf("t12"), 2);
        c.same("a digit where none is due", errorOf("o1"), 1);
        c.same("a capital", errorOf("W"), 0);
    }

    private static void promise11_theLengthIfThereIsNone(Check c) {
        c.same("an empty buffer", errorOf(""), 0);
        c.same("one move", errorOf("w"), 1);
        c.same("a text that ends too early", errorOf("s"), 1);
        c.same("a text that ends too early behind a move", errorOf("os9t"), 4);
        c.same("60 characters", errorOf("t3".repeat(30)), 60);
        c.same("60 characters, and too early", errorOf("w" + "s9".repeat(29) + "t"), 60);
    }

    private static void run(Sentences all) {
        String p = "Promise 12";
        String call = "public int run(";
        all.test(p, "Does the moves in the buffer as rest(), stride(), turnOver() and tag() do, one after the other,",
                CallSentences::promise12_doesTheMovesAsTheCalls)
            .broken("at += text.widthOfMove(at);", "at += 1;")
            .broken("case 'w':\n                game.endMove();", "game.endMove();", "game.moves++;")
            .broken("text.digitAt(at + 1)", "text.digitAt(1)");
        all.test(p, "up to the first one that is refused,", CallSentences::promise12_upToTheFirstRefused)
            .broken("return game.moveByTurn() == NOT_REFUSED;", "game.moveByTurn(); return true;")
            .broken("return isTower(digit) && game.moveByStride(digit) == NOT_REFUSED;",
                "if (isTower(digit)) { game.moveByStride(digit); } return true;")
            .broken("game.hasPlayer(digit) && game.moveByTag(digit) == NOT_REFUSED",
                "game.hasPlayer(digit) && game.moveByTag(digit) >= NOT_REFUSED");
        all.test(p, "or whose method would throw an exception,", CallSentences::promise12_upToTheFirstThatWouldThrow)
            .broken("return game.hasPlayer(digit) && game.moveByTag(digit) == NOT_REFUSED;",
                "return !game.hasPlayer(digit) || game.moveByTag(digit) == NOT_REFUSED;")
            .broken("return game.hasPlayer(digit) && game.moveByTag(digit) == NOT_REFUSED;",
                "return game.moveByTag(Math.min(digit, game.players - 1)) == NOT_REFUSED;")
            .broken("private boolean playMove(", "if (!game.takesMoves()) {", "if (game.players == 0) {")
            .broken("private boolean playMove(", "if (!game.takesMoves()) {", "if (game.moves >= MOST_MOVES) {");
        all.test(p, "and clears the buffer.", CallSentences::promise12_clearsTheBuffer)
            .broken(call, "text.empty();", TO_LEAVE_NONE)
            .broken(call, "text.empty();", "if (done > 0) { text.empty(); }");
        all.test(p, "Undoable, as one call, also if none is done.", CallSentences::promise12_undoableAsOneCall)
            .broken(call, SAVE, TO_LEAVE_NONE)
            .broken("private boolean playMove(", "switch", "past.save(game); switch")
            .broken(call, SAVE, "if (game.players > 0) { past.save(game); }");
        all.test(p, "Returns how many are done.", CallSentences::promise12_returnsHowManyAreDone)
            .broken(call, "return done;", "return at;")
            .broken(call, "int done = 0;", "int done = 1;");
        all.test(p, "Throws `IllegalArgumentException` if the buffer does not tell a game as a text",
                CallSentences::promise12_throwsIfTheBufferTellsNoGame)
            .broken("return length > 0 && firstWrong() == length && !needsDigit(codes[length - 1]);",
                "return firstWrong() == length && (length == 0 || !needsDigit(codes[length - 1]));")
            .broken("return length > 0 && firstWrong() == length && !needsDigit(codes[length - 1]);",
                "return length > 0 && firstWrong() == length;")
            .broken("return length > 0 && firstWrong() == length && !needsDigit(codes[length - 1]);",
                "return length > 0 && !needsDigit(codes[length - 1]);")
            .broken("return length > 0 && firstWrong() == length && !needsDigit(codes[length - 1]);",
                "return length > 0 && firstWrong() == length && codes[length - 1] != 's';")
            .broken("return length > 0 && firstWrong() == length && !needsDigit(codes[length - 1]);",
                "return length > 0 && firstWrong() == length && codes[length - 1] != 't';");
    }

    /** The moves as calls, one for each move, up to the first one that is refused or throws. */
    private static int called(HourglassTag x, String text) {
        int done = 0;
        for (int at = 0; at < text.length(); at++) {
            char letter = text.charAt(at);
            int reason;
            if (letter == 'w') {
                x.rest();
                reason = 0;
            } else if (letter == 'o') {
                reason = x.turnOver();
            } else {
                at++;
                int digit = text.charAt(at) - '0';
                reason = letter == 's' ? x.stride(digit) : digit < x.count(0) ? x.tag(digit) : -1;
            }
            if (reason != 0) {
                return done;
            }
            done++;
        }
        return done;
    }

    private static void sameAsCalled(Check c, Supplier<HourglassTag> made, String text, int done) {
        HourglassTag told = made.get();
        HourglassTag call = made.get();
        c.same("run of " + text, Games.run(told, text), done);
        c.same("calls of " + text, called(call, text), done);
        c.same("leaves behind " + text, Games.looks(told), Games.looks(call));
    }

    private static void promise12_doesTheMovesAsTheCalls(Check c) {
        Supplier<HourglassTag> two = () -> Games.pair(4, 20);
        sameAsCalled(c, two, "w", 1);
        sameAsCalled(c, two, "wwwww", 5);
        sameAsCalled(c, two, "s5s3s9s0", 4);
        sameAsCalled(c, two, "oooo", 4);
        sameAsCalled(c, two, "t1t0t1t0", 4);
        sameAsCalled(c, two, "s5wt1owt0s0s9w", 9);
        sameAsCalled(c, () -> Games.withPlayers(0, 200, 3, 200, 6, 200, 9, 200),
            "w".repeat(12) + "s1s2s7s8os3s6ws2wwws3s4s5s7", 28);
    }

    private static void promise12_upToTheFirstRefused(Check c) {
        Supplier<HourglassTag> two = () -> Games.pair(4, 20);
        String[] refused = {"s4", "t0", "t1"};
        for (int before = 0; before <= 7; before++) {
            for (String move : refused) {
                if (move.equals("t1") && before % 2 == 0) {
                    continue;
                }
                HourglassTag x = two.get();
                String text = "w".repeat(before) + move + "wow";
                c.same("run of " + text, Games.run(x, text), before);
                c.same("moves", x.count(3), before + 2);
                c.same("refused", x.count(4), 1);
                sameAsCalled(c, two, text, before);
            }
        }
        sameAsCalled(c, () -> Games.withPlayers(4, 3), "owww", 0);
        sameAsCalled(c, () -> Games.withPlayers(4, 3), "woooow", 4);
        sameAsCalled(c, () -> Games.withPlayers(4, 3), "s5wwww", 0);
        sameAsCalled(c, () -> Games.withPlayers(4, 3), "wws5s6", 3);
        sameAsCalled(c, () -> Games.withPlayers(4, 9, 6, 9), "t1w", 0);
        sameAsCalled(c, () -> Games.withPlayers(4, 9, 5, 9), "wwt1t0wwwt1w", 7);
        HourglassTag last = two.get();
        c.same("the last one of 60", Games.run(last, "w".repeat(58) + "s4"), 58);
        c.same("is refused", last.count(4), 1);
    }

    private static void promise12_upToTheFirstThatWouldThrow(Check c) {
        for (String text : new String[] {"w", "o", "s5", "t0", "wos5t0"}) {
            HourglassTag x = new HourglassTag();
            c.same("without players, " + text, Games.run(x, text), 0);
            c.same("no move", x.count(3), 0);
            c.same("which is not refused", x.count(4), 0);
        }
        for (int players = 1; players <= 3; players++) {
            for (int before = 0; before <= 3; before++) {
                HourglassTag x = new HourglassTag();
                for (int i = 0; i < players; i++) {
                    x.player(4, 90);
                }
                c.same("before no such player", Games.run(x, "w".repeat(before) + "t" + players + "ww"), before);
                c.same("moves", x.count(3), before);
                c.same("not refused", x.count(4), 0);
                c.same("it", x.count(2), 0);
                c.same("no player 3", Games.run(x, "t3w"), 0);
            }
        }
        HourglassTag many = Games.with9999Moves();
        many.undo();
        many.undo();
        c.same("up to 9999 moves", Games.run(many, "wwww"), 2);
        c.same("moves", many.count(3), 9999);
        c.same("none refused", many.count(4), 0);
    }

    private static void promise12_clearsTheBuffer(Check c) {
        String[] texts = {"w", "ww", "s4w", "t2", "o", "w".repeat(60)};
        for (String text : texts) {
            HourglassTag x = Games.withPlayers(4, 3, 4, 3);
            Games.run(x, text);
            c.same("cleared behind " + text, x.clearBuffer(), 0);
            HourglassTag none = new HourglassTag();
            Games.run(none, text);
            c.same("cleared without players behind " + text, none.clearBuffer(), 0);
        }
    }

    private static void promise12_undoableAsOneCall(Check c) {
        Games.undoable(c, "run of one", Games::young, x -> Games.run(x, "w"));
        Games.undoable(c, "run of 60", Games::young, x -> Games.run(x, "w".repeat(60)));
        Games.undoable(c, "run up to a refused one", Games::young, x -> Games.run(x, "wwwt1t0s5s4"));
        Games.undoable(c, "run of none, as it is refused", Games::young, x -> Games.run(x, "s4w"));
        Games.undoable(c, "run of none, as there is no such player", Games::young, x -> Games.run(x, "t3w"));
        Games.undoable(c, "run of none without players", Games::empty, x -> Games.run(x, "w"));
    }

    private static void promise12_returnsHowManyAreDone(Check c) {
        for (int moves = 1; moves <= 60; moves++) {
            c.same("moves", Games.run(Games.withPlayers(4, 3), "w".repeat(moves)), moves);
        }
        c.same("none", Games.run(Games.withPlayers(4, 3), "s4w"), 0);
        c.same("none without players", Games.run(new HourglassTag(), "w"), 0);
        c.same("moves of two characters", Games.run(Games.alone(4, 30), "s5s4s5"), 3);
        c.same("30 of them", Games.run(Games.alone(4, 60), "s5s4".repeat(15)), 30);
    }

    private static void promise12_throwsIfTheBufferTellsNoGame(Check c) {
        String[] texts = {
            "", "s", "t", "ws", "wt", "w".repeat(59) + "s", "w".repeat(59) + "t", "x", "wx", "xw", "t4", "t9w", "sw",
            "s5t", "s55", "w5", "W", "!", "w".repeat(59) + "!", "!" + "w".repeat(59), "~",
        };
        for (String text : texts) {
            c.throwsOn("run of " + text, Games.ARGUMENT, () -> typed(Games.young(), text), HourglassTag::run);
            c.throwsOn("run without players of " + text, Games.ARGUMENT, () -> typed(new HourglassTag(), text),
                HourglassTag::run);
        }
    }

    private static HourglassTag typed(HourglassTag x, String text) {
        Games.type(x, text);
        return x;
    }

    private static void keep(Sentences all) {
        String p = "Promise 13";
        String call = "public int keep(";
        all.test(p, "Takes a snapshot, in place of the one in the slot.", CallSentences::promise13_inPlaceOfTheOneThere)
            .broken("slots[slot].become(game);", "if (!slotFilled[slot]) { slots[slot].become(game); }")
            .broken("slots[slot].become(game);", TO_LEAVE_NONE)
            .broken("slots[slot].become(game);", "slots[1 - slot].become(game); slots[slot].become(game);");
        all.test(p, "- `slot`: 0 or 1", CallSentences::promise13_slotIs0Or1)
            .broken(call, "slot < 0", "slot < 1")
            .broken(call, "slot >= SLOTS", "slot >= SLOTS - 1");
        all.test(p, "Returns how many moves were made.", CallSentences::promise13_returnsHowManyMoves)
            .broken(call, "return game.moves;", "return game.moves + game.refused;")
            .broken(call, "return game.moves;", "return 0;");
        all.test(p, "Throws `IllegalArgumentException` if slot is out of range",
                CallSentences::promise13_throwsIfSlotIsOutOfRange)
            .broken(call, "if (slot < 0 || slot >= SLOTS) {", "if (slot < 0) {")
            .broken(call, "if (slot < 0 || slot >= SLOTS) {", "if (slot >= SLOTS) {")
            .broken(call, "if (slot < 0 || slot >= SLOTS) {", "if (slot > SLOTS) {");
    }

    private static void promise13_inPlaceOfTheOneThere(Check c) {
        for (int slot = 0; slot <= 1; slot++) {
            HourglassTag x = Games.withPlayers(4, 60);
            x.keep(1 - slot);
            for (int moves = 1; moves <= 3; moves++) {
                x.rest();
                x.keep(slot);
                x.rest();
                c.same("the latest", x.goBack(slot), moves);
                c.same("has its sand", Games.glass(x, 0), "4/" + (60 - 3 * moves) + "/" + 3 * moves);
            }
            c.same("the other slot stays", x.goBack(1 - slot), 0);
        }
    }

    private static void promise13_slotIs0Or1(Check c) {
        HourglassTag x = Games.withPlayers(4, 60);
        c.same("slot 0", x.keep(0), 0);
        c.same("slot 1", x.keep(1), 0);
        c.same("back to 0", x.goBack(0), 0);
        c.same("back to 1", x.goBack(1), 0);
    }

    private static void promise13_returnsHowManyMoves(Check c) {
        HourglassTag x = new HourglassTag();
        c.same("without players", x.keep(0), 0);
        x.player(4, 60);
        for (int moves = 0; moves <= 5; moves++) {
            c.same("moves", x.keep(1), moves);
            x.stride(4);
            c.same("a refused one is none", x.keep(0), moves);
            x.rest();
        }
        x.undo();
        c.same("behind undo", x.keep(0), 5);
    }

    private static void promise13_throwsIfSlotIsOutOfRange(Check c) {
        c.throwsOutside("keep", Games.ARGUMENT, Games::busy, 0, 1, HourglassTag::keep);
        c.throwsOutside("keep of a new object", Games.ARGUMENT, Games::empty, 0, 1, HourglassTag::keep);
        c.throwsOutside("keep with both slots", Games.ARGUMENT, Games::full, 0, 1, HourglassTag::keep);
    }

    private static void goBack(Sentences all) {
        String p = "Promise 14";
        String call = "public int goBack(";
        all.test(p, "Goes back to a snapshot, which stays.", CallSentences::promise14_goesBackToASnapshotWhichStays)
            .broken("game.become(slots[slot]);", TO_LEAVE_NONE)
            .broken("game.become(slots[slot]);", "game.become(slots[slot]); slotFilled[slot] = false;")
            .broken("game.become(slots[slot]);", "Game was = new Game(); was.become(game); game.become(slots[slot]); "
                + "slots[slot].become(was);");
        all.test(p, "Undoable.", CallSentences::promise14_undoable)
            .broken(call, SAVE, TO_LEAVE_NONE)
            .broken(call, SAVE, "past.save(slots[slot]);");
        all.test(p, "- `slot`: 0 or 1", CallSentences::promise14_slotIs0Or1)
            .broken(call, "slot < 0", "slot < 1")
            .broken(call, "slot >= SLOTS", "slot >= SLOTS - 1");
        all.test(p, "Returns how many moves were made then.", CallSentences::promise14_returnsHowManyMovesThen)
            .broken(call, "game.become(slots[slot]);\n        return game.moves;",
                "int now = game.moves; game.become(slots[slot]); return now;");
        all.test(p, "Throws `IllegalArgumentException` if slot is out of range",
                CallSentences::promise14_throwsIfSlotIsOutOfRange)
            .broken(call, "if (slot < 0 || slot >= SLOTS) {", "if (slot < 0) {")
            .broken(call, "if (slot < 0 || slot >= SLOTS) {", "if (slot >= SLOTS) {")
            .broken(call, "if (slot < 0 || slot >= SLOTS) {", "if (slot > SLOTS) {");
        all.test(p, "Throws `IllegalStateException` if there is no snapshot in it",
                CallSentences::promise14_throwsIfThereIsNoSnapshot)
            .broken("if (!slotFilled[slot]) {", "if (!slotFilled[0]) {")
            .broken("if (!slotFilled[slot]) {", "if (!slotFilled[1]) {")
            .broken("if (!slotFilled[slot]) {", "if (!slotFilled[0] && !slotFilled[1]) {")
            .broken("if (!slotFilled[slot]) {", "if (slot < 0) {");
    }

    private static void promise14_goesBackToASnapshotWhichStays(Check c) {
        for (int slot = 0; slot <= 1; slot++) {
            HourglassTag x = Games.busy();
            String kept = Games.looks(x);
            x.keep(slot);
            for (int round = 0; round < 3; round++) {
                x.height(round, 9);
                x.player(0, 5);
                x.rest();
                c.same("there is something to go back from", kept.equals(Games.looks(x)) ? 1 : 0, 0);
                x.goBack(slot);
                c.same("as it was kept", Games.looks(x), kept);
                x.goBack(slot);
                c.same("and again", Games.looks(x), kept);
            }
        }
    }

    private static void promise14_undoable(Check c) {
        Games.undoable(c, "goBack", Games::young, x -> x.goBack(0));
        Games.undoable(c, "goBack to where it is", () -> {
            HourglassTag x = Games.young();
            x.keep(1);
            return x;
        }, x -> x.goBack(1));
    }

    private static void promise14_slotIs0Or1(Check c) {
        HourglassTag x = Games.full();
        c.same("slot 0", x.goBack(0), 4);
        c.same("slot 1", x.goBack(1), 5);
    }

    private static void promise14_returnsHowManyMovesThen(Check c) {
        HourglassTag x = new HourglassTag();
        x.keep(0);
        x.player(4, 60);
        Games.rest(x, 5);
        x.stride(4);
        x.keep(1);
        Games.rest(x, 2);
        c.same("5 moves, a refused one is none", x.goBack(1), 5);
        c.same("no moves", x.goBack(0), 0);
        c.same("5 again", x.goBack(1), 5);
    }

    private static void promise14_throwsIfSlotIsOutOfRange(Check c) {
        c.throwsOutside("goBack", Games.ARGUMENT, Games::full, 0, 1, HourglassTag::goBack);
        c.throwsOutside("goBack of a new object", Games.ARGUMENT, Games::empty, 0, 1, HourglassTag::goBack);
    }

    private static void promise14_throwsIfThereIsNoSnapshot(Check c) {
        for (int s = 0; s <= 1; s++) {
            int slot = s;
            c.throwsOn("both are empty", Games.STATE, Games::empty, x -> x.goBack(slot));
            c.throwsOn("only the other one is filled", Games.STATE, () -> {
                HourglassTag x = Games.withPlayers(4, 60);
                x.keep(1 - slot);
                return x;
            }, x -> x.goBack(slot));
            HourglassTag x = new HourglassTag();
            x.keep(slot);
            c.same("filled", x.goBack(slot), 0);
        }
    }

    private static void undo(Sentences all) {
        String p = "Promise 15";
        all.test(p, "Restores the latest saved state, and drops it.", CallSentences::promise15_restoresTheLatest)
            .broken("game.become(ring[(oldest + held) % MOST_SAVED]);", TO_LEAVE_NONE)
            .broken("game.become(ring[(oldest + held) % MOST_SAVED]);", "game.become(ring[oldest]);")
            .broken("game.become(ring[(oldest + held) % MOST_SAVED]);",
                "game.become(ring[(oldest + held) % MOST_SAVED]); held++;");
        all.test(p, "Returns how many saved states are left.", CallSentences::promise15_returnsHowManyAreLeft)
            .broken("public int undo(", "return past.held;", "return past.held + 1;")
            .broken("public int undo(", "return past.held;", "return Math.min(4, past.held);");
        all.test(p, "Throws `IllegalStateException` if there is none", CallSentences::promise15_throwsIfThereIsNone)
            .broken("if (past.held <= 0) {", "if (past.held < 0) {")
            .broken("if (past.held <= 0) {", "if (past.held <= 1) {");
    }

    private static void promise15_restoresTheLatest(Check c) {
        HourglassTag x = Games.withPlayers(4, 60, 5, 60);
        String[] before = new String[4];
        before[0] = Games.looks(x);
        x.rest();
        before[1] = Games.looks(x);
        x.height(3, 3);
        before[2] = Games.looks(x);
        x.stride(5);
        before[3] = Games.looks(x);
        x.set(0, 9);
        for (int left = 3; left >= 0; left--) {
            x.undo();
            c.same("restored", Games.looks(x), before[left]);
            c.same("dropped", x.count(10), left + 2);
        }
        x.undo();
        c.same("one player", x.count(0), 1);
        x.undo();
        c.same("none", x.count(0), 0);
    }

    private static void promise15_returnsHowManyAreLeft(Check c) {
        for (int saved = 1; saved <= 8; saved++) {
            HourglassTag x = new HourglassTag();
            for (int i = 0; i < saved; i++) {
                x.height(0, i);
            }
            for (int left = Math.min(saved, 6) - 1; left >= 0; left--) {
                c.same("left", x.undo(), left);
            }
        }
    }

    private static void promise15_throwsIfThereIsNone(Check c) {
        c.throwsOn("a new object", Games.STATE, Games::empty, HourglassTag::undo);
        c.throwsOn("all taken back", Games.STATE, () -> {
            HourglassTag x = Games.busy();
            for (int i = 0; i < 6; i++) {
                x.undo();
            }
            return x;
        }, HourglassTag::undo);
        c.throwsOn("only what is not undoable", Games.STATE, () -> {
            HourglassTag x = new HourglassTag();
            x.append('w');
            x.keep(0);
            x.clearBuffer();
            return x;
        }, HourglassTag::undo);
        HourglassTag x = new HourglassTag();
        x.height(0, 1);
        c.same("one is there", x.undo(), 0);
    }
}
