import java.util.ArrayDeque;
import java.util.Arrays;
import java.util.Deque;
import java.util.List;
import java.util.function.Consumer;
import java.util.function.Supplier;

/** The tests of the sentences of the document's terms, from "Ways" to "Exceptions". */
final class RuleSentences {
    private static final String TO_LEAVE_NONE = "";
    private static final String SAVE = "past.save(game);";
    private static final String[] STATE_ROWS = {
        "heights", "lying", "settings", "place", "above", "below", "movesMade", "tagsMade", "timesTagged", "grainsPaid",
    };
    private static final String[] STATE_NUMBERS = {"players", "onMove", "it", "moves", "refused", "tags", "brought"};

    private RuleSentences() {
    }

    static void addTo(Sentences all) {
        ways(all);
        settings(all);
        text(all);
        snapshots(all);
        savedStates(all);
        exceptions(all);
        interfaceWords(all);
    }

    private static void ways(Sentences all) {
        all.test("Ways", "The price of a way from a tower to another one is the sum of the prices of its strides, "
            + "each to a tower that is seen from the one before.", RuleSentences::ways_sumOfStridesToSeenTowers)
            .broken("game.sees(from, to) ? game.priceOfStride(from, to) : UNSEEN", "game.priceOfStride(from, to)")
            .broken("cost[next] + single[next][tower]", "Math.max(cost[next], single[next][tower])")
            .broken("sum[from][over] + sum[over][to]", "Math.max(sum[from][over], sum[over][to])");
        all.test("Ways", "The cheapest price is the least of all ways (0 from a tower to itself).",
            RuleSentences::ways_leastOfAll)
            .broken("cost[tower] = tower == from ? 0 : UNSEEN;", "cost[tower] = tower == from ? 1 : UNSEEN;")
            .broken("System.arraycopy(single[tower], 0, sum[tower], 0, TOWERS);",
                "System.arraycopy(single[tower], 0, sum[tower], 0, TOWERS); sum[tower][tower] = 1;")
            .broken("cost[tower] < cost[best]", "cost[tower] > cost[best]")
            .broken("round < TOWERS", "round < 3")
            .broken("over < TOWERS", "over < 5");
    }

    private static void ways_sumOfStridesToSeenTowers(Check c) {
        HourglassTag x = Games.withHeights(0, 9, 0, 4, 1);
        for (int what = 0; what <= 1; what++) {
            c.same("one stride", x.price(1, 2, what), 2);
            c.same("over 1", x.price(0, 2, what), 2 + 9 + 2);
            c.same("over 1 the other way", x.price(2, 0, what), 2 + 9 + 2);
            c.same("over 3", x.price(2, 4, what), 2 + 4 + 2);
            c.same("over 1 and 3", x.price(0, 9, what), 2 + 9 + 4 + 12);
            c.same("over 3 and 1", x.price(9, 0, what), 12 + 4 + 4 + 5 + 2);
        }
    }

    /** The least of all ways of at most nine strides, told without the program, for hills of all kinds. */
    private static void ways_leastOfAll(Check c) {
        for (int seed = 0; seed < 40; seed++) {
            int[] heights = new int[10];
            for (int tower = 0; tower < 10; tower++) {
                heights[tower] = (seed * 7 + tower * tower * (seed + 3)) / 3 % 10;
            }
            HourglassTag x = Games.withHeights(heights);
            int each = seed % 4 * 3;
            x.set(1, each);
            for (int from = 0; from < 10; from++) {
                c.same("to itself", x.price(from, from, 0), 0);
                c.same("to itself, told the other way", x.price(from, from, 1), 0);
                int[] least = leastOfWays(heights, each, from);
                for (int to = 0; to < 10; to++) {
                    c.same("hills " + seed + ", from " + from + " to " + to, x.price(from, to, 0), least[to]);
                    c.same("hills " + seed + ", the other way told", x.price(from, to, 1), least[to]);
                }
            }
        }
    }

    private static int[] leastOfWays(int[] heights, int each, int from) {
        int[] least = new int[10];
        Arrays.fill(least, 1 << 20);
        least[from] = 0;
        for (int strides = 1; strides <= 9; strides++) {
            int[] longer = least.clone();
            for (int a = 0; a < 10; a++) {
                int top = -1;
                for (int b = a + 1; b < 10; b++) {
                    if (top <= Math.max(heights[a], heights[b])) {
                        int up = Math.max(0, heights[b] - heights[a]);
                        int down = Math.max(0, heights[a] - heights[b]);
                        longer[b] = Math.min(longer[b], least[a] + each * (b - a) + up);
                        longer[a] = Math.min(longer[a], least[b] + each * (b - a) + down);
                    }
                    top = Math.max(top, heights[b]);
                }
            }
            least = longer;
        }
        return least;
    }

    private static void settings(Sentences all) {
        all.test("Settings", "0: grains that run, 1 to 20, at first 3;", RuleSentences::settings_0Running)
            .broken("SETTING_AT_FIRST = {3, ", "SETTING_AT_FIRST = {2, ")
            .broken("SETTING_LEAST = {1, ", "SETTING_LEAST = {0, ")
            .broken("SETTING_LEAST = {1, ", "SETTING_LEAST = {2, ")
            .broken("SETTING_MOST = {20, ", "SETTING_MOST = {19, ")
            .broken("SETTING_MOST = {20, ", "SETTING_MOST = {21, ")
            .broken("Math.min(settings[RUNNING], above[onMove])", "Math.min(3, above[onMove])");
        all.test("Settings", "1: grains for a tower apart, 0 to 9, at first 2;", RuleSentences::settings_1Apart)
            .broken("SETTING_AT_FIRST = {3, 2, ", "SETTING_AT_FIRST = {3, 1, ")
            .broken("SETTING_LEAST = {1, 0, ", "SETTING_LEAST = {1, 1, ")
            .broken("SETTING_LEAST = {1, 0, ", "SETTING_LEAST = {1, -1, ")
            .broken("SETTING_MOST = {20, 9, ", "SETTING_MOST = {20, 8, ")
            .broken("SETTING_MOST = {20, 9, ", "SETTING_MOST = {20, 10, ")
            .broken("settings[APART] * Math.abs(to - from)", "2 * Math.abs(to - from)");
        all.test("Settings", "2: grains for turning over, 0 to 20, at first 1;", RuleSentences::settings_2Turning)
            .broken("SETTING_AT_FIRST = {3, 2, 1, ", "SETTING_AT_FIRST = {3, 2, 0, ")
            .broken("SETTING_LEAST = {1, 0, 0, ", "SETTING_LEAST = {1, 0, 1, ")
            .broken("SETTING_LEAST = {1, 0, 0, ", "SETTING_LEAST = {1, 0, -1, ")
            .broken("SETTING_MOST = {20, 9, 20, ", "SETTING_MOST = {20, 9, 19, ")
            .broken("SETTING_MOST = {20, 9, 20, ", "SETTING_MOST = {20, 9, 21, ")
            .broken("int moveByTurn(", "pay(settings[TURNING]);", "pay(1);");
        all.test("Settings", "3: how far a tag reaches, 0 to 9, at first 1.", RuleSentences::settings_3Reach)
            .broken("SETTING_AT_FIRST = {3, 2, 1, 1}", "SETTING_AT_FIRST = {3, 2, 1, 2}")
            .broken("SETTING_LEAST = {1, 0, 0, 0}", "SETTING_LEAST = {1, 0, 0, 1}")
            .broken("SETTING_LEAST = {1, 0, 0, 0}", "SETTING_LEAST = {1, 0, 0, -1}")
            .broken("SETTING_MOST = {20, 9, 20, 9}", "SETTING_MOST = {20, 9, 20, 8}")
            .broken("SETTING_MOST = {20, 9, 20, 9}", "SETTING_MOST = {20, 9, 20, 10}")
            .broken("Math.abs(place[player] - place[other]) > settings[REACH]",
                "Math.abs(place[player] - place[other]) > 1");
    }

    /** What it is at first, and that it is each number of its range, and none outside of it. */
    private static void range(Check c, int setting, int least, int most, int atFirst) {
        HourglassTag x = new HourglassTag();
        c.same("at first", x.setting(setting), atFirst);
        for (int value = least; value <= most; value++) {
            x.set(setting, value);
            c.same("set to " + value, x.setting(setting), value);
        }
        c.throwsOutside("set", Games.ARGUMENT, Games::busy, least, most, (y, value) -> y.set(setting, value));
    }

    private static void settings_0Running(Check c) {
        range(c, 0, 1, 20, 3);
        HourglassTag x = Games.withPlayers(5, 200);
        c.same("at first run", x.rest(), 3);
        x.set(0, 1);
        c.same("the least", x.rest(), 1);
        x.set(0, 20);
        c.same("the most", x.rest(), 20);
    }

    private static void settings_1Apart(Check c) {
        range(c, 1, 0, 9, 2);
        HourglassTag x = new HourglassTag();
        c.same("at first", x.price(0, 3, 0), 6);
        x.set(1, 0);
        c.same("the least", x.price(0, 3, 0), 0);
        x.set(1, 9);
        c.same("the most", x.price(0, 3, 0), 27);
    }

    private static void settings_2Turning(Check c) {
        range(c, 2, 0, 20, 1);
        HourglassTag x = Games.alone(5, 60);
        x.turnOver();
        c.same("at first", x.playerOf(0, 7), 1);
        x.set(2, 20);
        x.turnOver();
        c.same("the most", x.playerOf(0, 7), 21);
        x.set(2, 0);
        x.turnOver();
        c.same("the least", x.playerOf(0, 7), 21);
    }

    private static void settings_3Reach(Check c) {
        range(c, 3, 0, 9, 1);
        HourglassTag x = Games.withPlayers(0, 1, 9, 1, 2, 1, 1, 1);
        c.same("at first", x.prey(), 0b1000);
        x.set(3, 0);
        c.same("the least", x.prey(), 0);
        x.set(3, 9);
        c.same("the most", x.prey(), 0b1110);
    }

    private static void text(Sentences all) {
        all.test("Input text", "The buffer has at most 60 characters.", RuleSentences::text_atMost60)
            .broken("LONGEST = 60", "LONGEST = 59")
            .broken("LONGEST = 60", "LONGEST = 61");
        all.test("Input text", "A game as a text is one or more moves, one behind the other:",
            RuleSentences::text_oneOrMoreMoves)
            .broken("return length > 0 && firstWrong() == length && !needsDigit(codes[length - 1]);",
                "return length == 0 || firstWrong() == length && !needsDigit(codes[length - 1]);")
            .broken("return length > 0 &&", "return length > 1 &&")
            .broken("return length > 0 &&", "return length > 0 && length < 60 &&");
        all.test("Input text", "\"w\" (to wait),", RuleSentences::text_wIsToWait)
            .broken("int awaitedBehindLetter(", "case 'w':", "case 'W':")
            .broken("case 'w':\n                game.endMove();", "game.endMove();", "game.moveByTurn();");
        all.test("Input text", "\"s\" and the digit of a tower (to stride),", RuleSentences::text_sIsToStride)
            .broken("int awaitedBehindLetter(", "case 's':", "case 'S':")
            .broken("code >= '0' && code <= '9' ? AWAITS_MOVE", "code >= '1' && code <= '9' ? AWAITS_MOVE")
            .broken("code >= '0' && code <= '9' ? AWAITS_MOVE", "code >= '0' && code <= '8' ? AWAITS_MOVE")
            .broken("code >= '0' && code <= '9' ? AWAITS_MOVE", "code >= '0' && code <= ':' ? AWAITS_MOVE")
            .broken("code >= '0' && code <= '9' ? AWAITS_MOVE", "code >= '/' && code <= '9' ? AWAITS_MOVE")
            .broken("code >= '0' && code <= '9' ? code - '0'", "code >= '0' && code <= '8' ? code - '0'")
            .broken("code >= '0' && code <= '9' ? code - '0'", "code >= '0' && code <= '9' ? '9' - code");
        all.test("Input text", "\"o\" (to turn over),", RuleSentences::text_oIsToTurnOver)
            .broken("int awaitedBehindLetter(", "case 'o':", "case 'O':")
            .broken("return game.moveByTurn() == NOT_REFUSED;", "return game.endMove() >= 0;");
        all.test("Input text", "\"t\" and the digit of a player, 0 to 3 (to tag).", RuleSentences::text_tIsToTag)
            .broken("int awaitedBehindLetter(", "case 't':", "case 'T':")
            .broken("code >= '0' && code <= '3' ? AWAITS_MOVE", "code >= '1' && code <= '3' ? AWAITS_MOVE")
            .broken("code >= '0' && code <= '3' ? AWAITS_MOVE", "code >= '0' && code <= '2' ? AWAITS_MOVE")
            .broken("code >= '0' && code <= '3' ? AWAITS_MOVE", "code >= '0' && code <= '4' ? AWAITS_MOVE")
            .broken("code >= '0' && code <= '3' ? AWAITS_MOVE", "code >= '/' && code <= '3' ? AWAITS_MOVE")
            .broken("game.hasPlayer(digit) && game.moveByTag(digit)",
                "game.hasPlayer(digit) && digit > 0 && game.moveByTag(digit)");
        all.test("Input text", "The buffer is read from left to right; a character is a syntax error if no game as "
            + "a text, of any length, begins with the characters before it and this character.",
            RuleSentences::text_syntaxErrors)
            .broken("int firstWrong()", "return i;", "return length - 1;")
            .broken("int firstWrong()", "return i;", "return i + 1;")
            .broken("int firstWrong()", "int i = 0; i < length;", "int i = 0; i < length - 1;")
            .broken("int firstWrong()", "int i = 0; i < length;", "int i = 1; i < length;")
            .broken("int firstWrong()", "return length;", "return length == 60 && needsDigit(codes[59]) ? 59 : length;")
            .broken("int awaitedBehindLetter(", "return AWAITS_PLAYER;", "return AWAITS_TOWER;")
            .broken("int awaitedBehindLetter(", "return AWAITS_TOWER;", "return AWAITS_PLAYER;")
            .broken("int awaitedBehindLetter(", "return WRONG;", "return code == '1' ? AWAITS_MOVE : WRONG;");
    }

    private static void text_atMost60(Check c) {
        HourglassTag x = new HourglassTag();
        for (int round = 0; round < 3; round++) {
            for (int length = 1; length <= 60; length++) {
                c.same("append", x.append('w'), length);
            }
            c.same("the buffer", x.firstError(), 60);
            c.same("the buffer, cleared", x.clearBuffer(), 60);
        }
        c.throwsOn("the 61st character", Games.STATE, Games::full, y -> y.append('w'));
    }

    private static void text_oneOrMoreMoves(Check c) {
        c.throwsOn("no move", Games.ARGUMENT, () -> Games.withPlayers(4, 200), HourglassTag::run);
        for (int moves = 1; moves <= 60; moves++) {
            c.same("moves", Games.run(Games.withPlayers(4, 200), "w".repeat(moves)), moves);
        }
        c.same("moves of two characters", Games.run(Games.alone(0, 60), "s1s0".repeat(15)), 30);
        c.same("of all kinds", Games.run(Games.pair(4, 20), "s5wt1owt0"), 6);
    }

    /** The text does what the calls do: all looks are the same behind both, and all behind undo. */
    private static void tells(Check c, Supplier<HourglassTag> made, String text, int done,
            Consumer<HourglassTag> call) {
        HourglassTag told = made.get();
        HourglassTag called = made.get();
        c.same("run of " + text, Games.run(told, text), done);
        call.accept(called);
        Games.alike(c, text, told, called);
    }

    private static void text_wIsToWait(Check c) {
        tells(c, Games::young, "w", 1, HourglassTag::rest);
        tells(c, () -> Games.withPlayers(0, 0), "w", 1, HourglassTag::rest);
    }

    private static void text_sIsToStride(Check c) {
        for (int t = 0; t <= 9; t++) {
            int tower = t;
            tells(c, () -> Games.alone(5, 60), "s" + tower, tower == 5 ? 0 : 1, x -> x.stride(tower));
            tells(c, () -> Games.withPlayers(5, 60), "s" + tower, 0, x -> x.stride(tower));
        }
        for (char noTower : "/:wsotx!~".toCharArray()) {
            HourglassTag x = Games.young();
            Games.type(x, "s" + noTower);
            c.same("no tower: " + noTower, x.firstError(), 1);
        }
    }

    private static void text_oIsToTurnOver(Check c) {
        tells(c, () -> Games.alone(5, 60), "o", 1, HourglassTag::turnOver);
        tells(c, () -> Games.withPlayers(5, 60), "o", 0, HourglassTag::turnOver);
    }

    private static void text_tIsToTag(Check c) {
        Supplier<HourglassTag> four = () -> Games.withPlayers(4, 60, 4, 60, 5, 60, 6, 60);
        tells(c, four, "t0", 0, x -> x.tag(0));
        tells(c, four, "t1", 1, x -> x.tag(1));
        tells(c, four, "t2", 1, x -> x.tag(2));
        tells(c, four, "t3", 0, x -> x.tag(3));
        Supplier<HourglassTag> last = () -> {
            HourglassTag x = Games.withPlayers(4, 60, 4, 60, 4, 60, 4, 60);
            x.tag(3);
            Games.rest(x, 2);
            return x;
        };
        tells(c, last, "t0", 1, x -> x.tag(0));
        for (char noPlayer : "/4589:wsotx!~".toCharArray()) {
            HourglassTag x = four.get();
            Games.type(x, "t" + noPlayer);
            c.same("no player: " + noPlayer, x.firstError(), 1);
        }
    }

    private static void text_syntaxErrors(Check c) {
        for (String before : new String[] {"", "w", "o", "s0", "s9", "t0", "t3", "ws5ot1w"}) {
            errorsBehind(c, before, "wsot");
        }
        for (String before : new String[] {"s", "ws", "t3s"}) {
            errorsBehind(c, before, "0123456789");
        }
        for (String before : new String[] {"t", "ot", "s9t"}) {
            errorsBehind(c, before, "0123");
        }
        for (int place = 0; place < 60; place++) {
            String before = "w".repeat(place);
            c.same("the first at " + place, errorOf(before + "x" + "x".repeat(59 - place)), place);
            c.same("alone at " + place, errorOf(before + "1" + "w".repeat(59 - place)), place);
            c.same("none of " + place, errorOf(before), place);
        }
        c.same("no digit behind the 60th, as a game can be longer", errorOf("w".repeat(59) + "s"), 60);
        c.same("no player behind the 60th", errorOf("w".repeat(59) + "t"), 60);
    }

    private static void errorsBehind(Check c, String before, String fine) {
        for (char code = 33; code <= 126; code++) {
            int due = fine.indexOf(code) >= 0 ? before.length() + 1 : before.length();
            c.same(code + " behind " + before, errorOf(before + code), due);
        }
    }

    private static int errorOf(String text) {
        HourglassTag x = new HourglassTag();
        Games.type(x, text);
        return x.firstError();
    }

    private static void snapshots(Sentences all) {
        all.test("Snapshots, undo", "There are two slots;", RuleSentences::snapshots_twoSlots)
            .broken("SLOTS = 2", "SLOTS = 1")
            .broken("SLOTS = 2", "SLOTS = 3")
            .broken("slots[slot].become(game);", "slots[0].become(game);")
            .broken("game.become(slots[slot]);", "game.become(slots[1]);")
            .broken("slotFilled[slot] = true;", "slotFilled[0] = true; slotFilled[1] = true;");
        Sentence kept = all.test("Snapshots, undo",
            "a snapshot is all but the buffer, the slots and the saved states.",
            RuleSentences::snapshots_allButBufferSlotsAndSavedStates)
            .broken("game.become(slots[slot]);", "game.become(slots[slot]); text.empty();")
            .broken("game.become(slots[slot]);", "game.become(slots[slot]); past.held = 0;")
            .broken("game.become(slots[slot]);", "game.become(slots[slot]); slotFilled[1 - slot] = false;");
        breakEachPartOfTheState(kept);
        all.test("Snapshots, undo", "Each method that is marked \"undoable\" and does not throw an exception saves the "
            + "state from before it", RuleSentences::snapshots_undoableMethodsSave)
            .broken("public int height(", SAVE, TO_LEAVE_NONE)
            .broken("public int player(", SAVE, TO_LEAVE_NONE)
            .broken("public int set(", SAVE, TO_LEAVE_NONE)
            .broken("public int rest(", SAVE, TO_LEAVE_NONE)
            .broken("public int stride(", SAVE, TO_LEAVE_NONE)
            .broken("public int turnOver(", SAVE, TO_LEAVE_NONE)
            .broken("public int tag(", SAVE, TO_LEAVE_NONE)
            .broken("public int run(", SAVE, TO_LEAVE_NONE)
            .broken("public int goBack(", SAVE, TO_LEAVE_NONE)
            .broken("return text.add(code);", "past.save(game); return text.add(code);")
            .broken("public int clearBuffer(", "return text", "past.save(game); return text")
            .broken("public int firstError(", "return text", "past.save(game); return text")
            .broken("slots[slot].become(game);", "past.save(game); slots[slot].become(game);")
            .broken("throw new IllegalStateException(\"there are 4 players\");",
                "past.save(game); throw new IllegalStateException();")
            .broken("throw new IllegalArgumentException(\"the buffer does not tell a game\");",
                "past.save(game); throw new IllegalArgumentException();");
        all.test("Snapshots, undo", "(also if it changes nothing, or is refused):",
            RuleSentences::snapshots_savedAlsoIfNothingIsChanged)
            .broken("public int height(", SAVE, "if (game.heights[tower] != height) { past.save(game); }")
            .broken("public int set(", SAVE, "if (game.settings[setting] != value) { past.save(game); }")
            .broken("public int rest(", SAVE, "if (game.above[game.onMove] > 0) { past.save(game); }")
            .broken("public int stride(", SAVE,
                "if (game.refusalOfStride(game.onMove, tower) == 0) { past.save(game); }")
            .broken("public int turnOver(", SAVE,
                "if (game.settings[TURNING] <= game.below[game.onMove]) { past.save(game); }")
            .broken("public int tag(", SAVE, "if (game.refusalOfTag(game.onMove, player) == 0) { past.save(game); }")
            .broken("public int run(", SAVE, "if (game.players > 0) { past.save(game); }")
            .broken("public int goBack(", SAVE, "if (game.moves != slots[slot].moves) { past.save(game); }");
        Sentence saved = all.test("Snapshots, undo",
            "all, also what is counted so far, but the buffer, the slots and the saved states.",
            RuleSentences::snapshots_savedIsAllButBufferSlotsAndSavedStates)
            .broken("past.restoreLatest(game);", "past.restoreLatest(game); text.empty();")
            .broken("past.restoreLatest(game);", "past.restoreLatest(game); slotFilled[0] = false;")
            .broken("past.restoreLatest(game);", "past.restoreLatest(game); slots[0].become(game);");
        breakEachPartOfTheState(saved);
    }

    private static void breakEachPartOfTheState(Sentence sentence) {
        for (String row : STATE_ROWS) {
            sentence.broken("System.arraycopy(other." + row + ",", "System.arraycopy(other." + row + ",",
                "System.arraycopy(" + row + ",");
        }
        for (String number : STATE_NUMBERS) {
            sentence.broken(number + " = other." + number + ";", TO_LEAVE_NONE);
        }
    }

    private static void snapshots_twoSlots(Check c) {
        HourglassTag x = Games.withPlayers(3, 30);
        x.keep(0);
        c.throwsOn("slot 1 is empty still", Games.STATE, () -> {
            HourglassTag y = Games.withPlayers(3, 30);
            y.keep(0);
            return y;
        }, y -> y.goBack(1));
        c.throwsOn("slot 0 is empty still", Games.STATE, () -> {
            HourglassTag y = Games.withPlayers(3, 30);
            y.keep(1);
            return y;
        }, y -> y.goBack(0));
        x.rest();
        x.keep(1);
        x.rest();
        for (int round = 0; round < 3; round++) {
            c.same("slot 0", x.goBack(0), 0);
            c.same("slot 0 has all above", Games.glass(x, 0), "3/30/0");
            c.same("slot 1", x.goBack(1), 1);
            c.same("slot 1 has 3 below", Games.glass(x, 0), "3/27/3");
        }
        c.throwsOutside("keep", Games.ARGUMENT, Games::full, 0, 1, HourglassTag::keep);
        c.throwsOutside("goBack", Games.ARGUMENT, Games::full, 0, 1, HourglassTag::goBack);
    }

    private static HourglassTag beforeChanges() {
        HourglassTag x = Games.withPlayers(3, 60, 4, 60);
        Games.rest(x, 2);
        x.tag(1);
        return x;
    }

    /** 6 undoable calls that change all but what moves pay. */
    private static void changeMost(HourglassTag x) {
        x.height(7, 3);
        x.set(1, 1);
        x.player(5, 20);
        x.tag(0);
        x.stride(9);
        x.rest();
    }

    /** Two undoable calls that change what moves pay: where players stand, sand on towers, grains paid. */
    private static void changeRest(HourglassTag x) {
        x.stride(4);
        x.turnOver();
    }

    private static void snapshots_allButBufferSlotsAndSavedStates(Check c) {
        HourglassTag x = beforeChanges();
        String before = Games.looks(x);
        x.keep(0);
        changeMost(x);
        changeRest(x);
        String behind = Games.looks(x);
        x.keep(1);
        Games.type(x, "wx");
        x.goBack(0);
        c.same("all is as it was kept", Games.looks(x), before);
        c.same("six are still saved", x.count(10), 6);
        c.same("the buffer stays", x.firstError(), 1);
        c.same("the slot 1 stays", x.goBack(1), 7);
        c.same("and has all", Games.looks(x), behind);
        c.same("the buffer stays again", x.clearBuffer(), 2);
        HourglassTag saved = Games.withPlayers(3, 60);
        saved.keep(0);
        saved.rest();
        saved.goBack(0);
        c.same("the saved states are not those of the snapshot", saved.count(10), 3);
        saved.undo();
        c.same("but go on", saved.count(3), 1);
        HourglassTag late = Games.withPlayers(3, 60);
        late.keep(0);
        late.rest();
        late.keep(0);
        late.rest();
        late.keep(1);
        late.goBack(0);
        late.goBack(1);
        c.same("a snapshot has no slots", late.goBack(0), 1);
    }

    private static void saves(Check c, String what, Supplier<HourglassTag> made, Consumer<HourglassTag> call) {
        HourglassTag x = made.get();
        String before = Games.looks(x);
        int saved = x.count(10);
        call.accept(x);
        c.same(what + " saves", x.count(10), saved + 1);
        x.undo();
        c.same(what + ", undone", Games.looks(x), before);
    }

    private static void savesNothing(Check c, String what, Consumer<HourglassTag> call) {
        HourglassTag x = Games.young();
        call.accept(x);
        c.same(what + " saves nothing", x.count(10), 3);
        x.undo();
        c.same("the latest is still there behind " + what, x.count(3), 0);
    }

    private static void snapshots_undoableMethodsSave(Check c) {
        saves(c, "height", Games::young, x -> x.height(3, 4));
        saves(c, "player", Games::young, x -> x.player(3, 4));
        saves(c, "set", Games::young, x -> x.set(3, 4));
        saves(c, "rest", Games::young, HourglassTag::rest);
        saves(c, "stride", () -> Games.alone(4, 9), x -> x.stride(3));
        saves(c, "turnOver", () -> Games.alone(4, 9), HourglassTag::turnOver);
        saves(c, "tag", () -> Games.withPlayers(4, 9, 4, 9), x -> x.tag(1));
        saves(c, "run", Games::young, x -> Games.run(x, "www"));
        saves(c, "goBack", Games::young, x -> x.goBack(0));
        savesNothing(c, "append", x -> x.append('w'));
        savesNothing(c, "clearBuffer", HourglassTag::clearBuffer);
        savesNothing(c, "firstError", HourglassTag::firstError);
        savesNothing(c, "keep", x -> x.keep(1));
        for (Consumer<HourglassTag> call : allThatThrow()) {
            savesNothing(c, "what throws", x -> swallow(x, call));
        }
        c.throwsOn("a fifth player is not saved", Games.STATE, Games::full, x -> x.player(0, 0));
    }

    private static void swallow(HourglassTag x, Consumer<HourglassTag> call) {
        try {
            call.accept(x);
        } catch (RuntimeException e) {
            return;
        }
        throw new UnsupportedOperationException("a call that is due to throw did not");
    }

    private static List<Consumer<HourglassTag>> allThatThrow() {
        return List.of(
            x -> x.height(10, 0), x -> x.height(0, 10), x -> x.player(10, 0), x -> x.player(0, 201),
            x -> x.set(4, 1), x -> x.set(0, 0), x -> x.stride(10), x -> x.tag(2), x -> x.append(32),
            HourglassTag::run, x -> x.keep(2), x -> x.goBack(2), x -> x.goBack(1), x -> x.tower(10, 0),
            x -> x.tower(0, 4), x -> x.playerOf(2, 0), x -> x.playerOf(0, 9), x -> x.count(11), x -> x.setting(4),
            x -> x.price(10, 0, 0), x -> x.price(0, 10, 0), x -> x.price(0, 0, 2), x -> x.whyNot(2, 0),
            x -> x.whyNot(0, 10), x -> x.movesTo(2, 0), x -> x.movesTo(0, 10));
    }

    private static void snapshots_savedAlsoIfNothingIsChanged(Check c) {
        saves(c, "the same height", Games::young, x -> x.height(3, 0));
        saves(c, "the same setting", Games::young, x -> x.set(0, 3));
        saves(c, "a wait without sand", () -> Games.withPlayers(4, 0), HourglassTag::rest);
        saves(c, "a stride refused for 1", Games::young, x -> x.stride(4));
        saves(c, "a stride refused for 2", () -> {
            HourglassTag x = Games.alone(0, 9);
            x.undo();
            x.height(1, 1);
            return x;
        }, x -> x.stride(2));
        saves(c, "a stride refused for 3", Games::young, x -> x.stride(5));
        saves(c, "a turn refused for 4", Games::young, HourglassTag::turnOver);
        saves(c, "a tag refused for 5", Games::young, x -> x.tag(0));
        saves(c, "a tag refused for 6", () -> Games.withPlayers(4, 9), x -> x.tag(0));
        saves(c, "a tag refused for 7", () -> Games.withPlayers(4, 9, 9, 9), x -> x.tag(1));
        saves(c, "a tag refused for 2", () -> {
            HourglassTag x = Games.withPlayers(4, 9, 6, 9);
            x.height(5, 1);
            return x;
        }, x -> x.tag(1));
        saves(c, "a run that does nothing", Games::empty, x -> Games.run(x, "w"));
        saves(c, "a run whose first move is refused", Games::young, x -> Games.run(x, "s4w"));
        saves(c, "going back to the same", () -> {
            HourglassTag x = Games.withPlayers(4, 9);
            x.keep(0);
            return x;
        }, x -> x.goBack(0));
    }

    private static void snapshots_savedIsAllButBufferSlotsAndSavedStates(Check c) {
        HourglassTag x = beforeChanges();
        String before = Games.looks(x);
        changeMost(x);
        String behindMost = Games.looks(x);
        undo(x, 6);
        c.same("most is undone", Games.looks(x), before);
        HourglassTag y = beforeChanges();
        changeMost(y);
        changeRest(y);
        undo(y, 2);
        c.same("what moves pay is undone", Games.looks(y), behindMost);
        HourglassTag z = Games.withPlayers(3, 30);
        z.rest();
        z.keep(0);
        z.rest();
        z.rest();
        Games.type(z, "wo");
        c.same("undo", z.undo(), 3);
        c.same("the buffer stays", z.clearBuffer(), 2);
        c.same("undo to where the slot was filled, and further", z.undo() + z.undo(), 2 + 1);
        c.same("the slot stays as it was kept", z.goBack(0), 1);
        c.same("going back was saved, and undo leaves the slot", z.undo(), 1);
        c.same("the slot stays again", z.goBack(0), 1);
    }

    private static void undo(HourglassTag x, int times) {
        for (int i = 0; i < times; i++) {
            x.undo();
        }
    }

    private static void savedStates(Sentences all) {
        all.test("Snapshots, undo", "At most 6 states are saved;", RuleSentences::snapshots_atMost6AreSaved)
            .broken("MOST_SAVED = 6", "MOST_SAVED = 5")
            .broken("MOST_SAVED = 6", "MOST_SAVED = 7");
        all.test("Snapshots, undo", "the oldest one is dropped first.", RuleSentences::snapshots_oldestIsDroppedFirst)
            .broken("oldest = (oldest + 1) % MOST_SAVED;", TO_LEAVE_NONE)
            .broken("oldest = (oldest + 1) % MOST_SAVED;", "oldest = (oldest + 5) % MOST_SAVED;")
            .broken("void save(", "ring[(oldest + held) % MOST_SAVED]", "ring[held]");
    }

    private static void snapshots_atMost6AreSaved(Check c) {
        HourglassTag x = new HourglassTag();
        for (int saved = 1; saved <= 20; saved++) {
            x.height(0, saved % 10);
            c.same("saved", x.count(10), saved < 6 ? saved : 6);
        }
        for (int left = 5; left >= 0; left--) {
            c.same("left", x.undo(), left);
        }
        c.same("none is left", x.count(10), 0);
    }

    /** States are saved and taken back again and again; what is due is told by a row of the heights before. */
    private static void snapshots_oldestIsDroppedFirst(Check c) {
        HourglassTag x = new HourglassTag();
        Deque<Integer> due = new ArrayDeque<>();
        int height = 0;
        for (int i = 0; i < 120; i++) {
            for (int save = 0; save <= (i * 5 + 2) % 9; save++) {
                due.addLast(height);
                height = (height + 1 + save) % 10;
                x.height(4, height);
                if (due.size() > 6) {
                    due.removeFirst();
                }
            }
            for (int back = i % 7; back > 0 && !due.isEmpty(); back--) {
                height = due.removeLast();
                c.same("saved behind undo", x.undo(), due.size());
                c.same("height behind undo", x.tower(4, 0), height);
            }
            if (i % 20 == 19) {
                x = new HourglassTag();
                due.clear();
                height = 0;
            }
        }
    }

    private static void exceptions(Sentences all) {
        all.test("Exceptions", "A call that throws an exception changes nothing.",
            RuleSentences::exceptions_nothingIsChanged)
            .broken("throw new IllegalArgumentException(\"height is not 0 to 9\");",
                "game.heights[tower] = 9; throw new IllegalArgumentException();")
            .broken("throw new IllegalArgumentException(\"sand is not 0 to 200\");",
                "game.brought++; throw new IllegalArgumentException();")
            .broken("throw new IllegalArgumentException(\"value is out of range\");",
                "game.settings[setting] = SETTING_MOST[setting]; throw new IllegalArgumentException();")
            .broken("public int stride(", "throw new IndexOutOfBoundsException(\"no such tower\");",
                "game.refused++; throw new IndexOutOfBoundsException();")
            .broken("public int tag(", "throw new IndexOutOfBoundsException(\"no such player\");",
                "game.refused++; throw new IndexOutOfBoundsException();")
            .broken("throw new IllegalArgumentException(\"code is not 33 to 126\");",
                "text.add(code); throw new IllegalArgumentException();")
            .broken("throw new IllegalStateException(\"the buffer has 60 characters\");",
                "text.codes[59] = code; throw new IllegalStateException();")
            .broken("throw new IllegalArgumentException(\"the buffer does not tell a game\");",
                "text.empty(); throw new IllegalArgumentException();")
            .broken("public int keep(", "throw new IllegalArgumentException(\"slot is not 0 or 1\");",
                "slotFilled[1] = true; throw new IllegalArgumentException();")
            .broken("throw new IllegalStateException(\"no snapshot in the slot\");",
                "slotFilled[slot] = true; throw new IllegalStateException();")
            .broken("throw new IllegalStateException(\"no saved state\");",
                "game.refused++; throw new IllegalStateException();")
            .broken("throw new IllegalStateException(\"there are 4 players\");",
                "past.restoreLatest(game); throw new IllegalStateException();");
        all.test("Exceptions",
            "If several exceptions apply, the one that is named first in the throws clause is thrown.",
            RuleSentences::exceptions_firstNamedIsThrown)
            .broken("public int height(", "if (!isTower(tower)) {",
                "if (!isTower(tower) && height >= 0 && height <= HIGHEST) {")
            .broken("public int player(", "if (!isTower(tower)) {",
                "if (!isTower(tower) && sand >= 0 && sand <= MOST_SAND) {")
            .broken("public int player(", "if (!isTower(tower)) {",
                "if (!isTower(tower) && game.players < MOST_PLAYERS) {")
            .broken("public int player(", "if (sand < 0 || sand > MOST_SAND) {",
                "if ((sand < 0 || sand > MOST_SAND) && game.players < MOST_PLAYERS) {")
            .broken("public int set(", "if (!isSetting(setting)) {",
                "if (value < 0 || value > 20) { throw new IllegalArgumentException(); } if (!isSetting(setting)) {")
            .broken("public int stride(", "if (!isTower(tower)) {", "if (!isTower(tower) && game.takesMoves()) {")
            .broken("public int tag(", "if (!game.hasPlayer(player)) {",
                "if (!game.hasPlayer(player) && game.moves < MOST_MOVES) {")
            .broken("public int append(", "if (code < Text.FIRST_CODE || code > Text.LAST_CODE) {",
                "if ((code < Text.FIRST_CODE || code > Text.LAST_CODE) && text.length < Text.LONGEST) {")
            .broken("public int goBack(", "if (slot < 0 || slot >= SLOTS) {",
                "if ((slot < 0 || slot >= SLOTS) && slotFilled[0]) {")
            .broken("public int tower(", "if (!isTower(tower)) {",
                "if (!isTower(tower) && what >= 0 && what < TOWER_PROPERTIES) {")
            .broken("public int playerOf(", "if (!game.hasPlayer(player)) {",
                "if (!game.hasPlayer(player) && what >= 0 && what < PLAYER_PROPERTIES) {")
            .broken("public int price(", "if (!isTower(from) || !isTower(to)) {",
                "if ((!isTower(from) || !isTower(to)) && (what == 0 || what == 1)) {");
    }

    private static void exceptions_nothingIsChanged(Check c) {
        for (Consumer<HourglassTag> call : allThatThrow()) {
            HourglassTag x = Games.young();
            swallow(x, call);
            c.same("behind an exception", Games.picture(x), Games.picture(Games.young()));
        }
        c.throwsOn("player", Games.STATE, Games::full, x -> x.player(1, 1));
        c.throwsOn("append", Games.STATE, Games::full, x -> x.append('o'));
        c.throwsOn("append", Games.ARGUMENT, Games::busy, x -> x.append(127));
        c.throwsOn("rest", Games.STATE, Games::empty, HourglassTag::rest);
        c.throwsOn("stride", Games.STATE, Games::empty, x -> x.stride(0));
        c.throwsOn("turnOver", Games.STATE, Games::empty, HourglassTag::turnOver);
        c.throwsOn("tag", Games.INDEX, Games::empty, x -> x.tag(0));
        c.throwsOn("undo", Games.STATE, Games::empty, HourglassTag::undo);
        c.throwsOn("goBack", Games.STATE, Games::empty, x -> x.goBack(1));
        c.throwsOn("run of half a move", Games.ARGUMENT, () -> {
            HourglassTag x = Games.busy();
            x.append('s');
            return x;
        }, HourglassTag::run);
    }

    private static void exceptions_firstNamedIsThrown(Check c) {
        c.throwsOn("height: tower and height", Games.INDEX, Games::busy, x -> x.height(10, 10));
        c.throwsOn("player: tower and sand", Games.INDEX, Games::busy, x -> x.player(-1, 201));
        c.throwsOn("player: tower, and 4 players", Games.INDEX, Games::full, x -> x.player(-1, 10));
        c.throwsOn("player: sand, and 4 players", Games.ARGUMENT, Games::full, x -> x.player(0, -1));
        c.throwsOn("player: all three", Games.INDEX, Games::full, x -> x.player(10, -1));
        c.throwsOn("set: setting and value", Games.INDEX, Games::busy, x -> x.set(4, 21));
        c.throwsOn("set: setting and value too", Games.INDEX, Games::busy, x -> x.set(-1, -1));
        c.throwsOn("stride: tower, and no player", Games.INDEX, Games::empty, x -> x.stride(10));
        c.throwsOn("stride: tower, and 9999 moves", Games.INDEX, Games::with9999Moves, x -> x.stride(10));
        c.throwsOn("tag: player, and 9999 moves", Games.INDEX, Games::with9999Moves, x -> x.tag(1));
        c.throwsOn("append: code, and 60 characters", Games.ARGUMENT, Games::full, x -> x.append(32));
        c.throwsOn("goBack: slot, and no snapshot", Games.ARGUMENT, Games::empty, x -> x.goBack(2));
        c.throwsOn("goBack: slot below, and no snapshot", Games.ARGUMENT, Games::empty, x -> x.goBack(-1));
        c.throwsOn("tower: tower and what", Games.INDEX, Games::busy, x -> x.tower(10, 4));
        c.throwsOn("playerOf: player and what", Games.INDEX, Games::busy, x -> x.playerOf(3, 9));
        c.throwsOn("price: from and what", Games.INDEX, Games::busy, x -> x.price(10, 0, 2));
        c.throwsOn("price: to and what", Games.INDEX, Games::busy, x -> x.price(0, 10, 2));
    }

    private static void interfaceWords(Sentences all) {
        all.test("Exceptions", "The constants: `NONE = -1`: There is nothing to return.", RuleSentences::constants_none)
            .broken("public static final int NONE = -1;", "public static final int NONE = -2;")
            .broken("return game.players > 0 ? game.onMove : NONE;", "return game.players > 0 ? game.onMove : 0;")
            .broken("return game.players > 0 ? game.it : NONE;", "return game.players > 0 ? game.it : 0;");
        all.plain("Exceptions",
            "Ahead of the calls `height`, `player`, `set` the interface says: ---- towers, players.");
        all.plain("Exceptions",
            "Ahead of the calls `rest`, `stride`, `turnOver`, `tag` the interface says: ---- moves.");
        all.plain("Exceptions", "Ahead of the calls `append`, `clearBuffer`, `firstError`, `run`, `keep`, `goBack`, "
            + "`undo` the interface says: ---- texts, snapshots.");
        all.test("Exceptions", "Ahead of the calls `tower`, `playerOf`, `count`, `setting` the interface says: "
            + "---- looks; nothing is changed.", RuleSentences::looks_changeNothing)
            .broken("return towerProperty(tower, what);", "game.lying[tower]++; return towerProperty(tower, what);")
            .broken("return playerProperty(player, what);", "game.refused++; return playerProperty(player, what);")
            .broken("return number(what);", "game.refused++; return number(what);")
            .broken("return game.settings[setting];", "game.refused++; return game.settings[setting];");
        all.test("Exceptions", "Ahead of the calls `price`, `whyNot`, `movesTo`, `prey`, `lookout`, `belowShare`, "
            + "`digest` the interface says: ---- what would be; nothing is changed.",
            RuleSentences::whatWouldBe_changesNothing)
            .broken("public int price(", "ways.layOut(game);", "game.refused++; ways.layOut(game);")
            .broken("public int whyNot(", "return", "game.refused++; return")
            .broken("System.arraycopy(game.lying, 0, lying, 0, TOWERS);",
                "System.arraycopy(game.lying, 0, lying, 0, TOWERS); game.lying[tower] = 0;")
            .broken("public int prey(", "return", "game.refused++; return")
            .broken("public int lookout(", "return", "game.refused++; return")
            .broken("public double belowShare(", "return", "game.refused++; return")
            .broken("long hash = 3229L;", "game.refused++; long hash = 3229L;");
    }

    private static void constants_none(Check c) {
        c.same("NONE", noneOfTheClass(), -1);
        c.same("nobody on the move", new HourglassTag().count(1), -1);
        c.same("nobody is it", new HourglassTag().count(2), -1);
        c.same("no way in 4 moves", Games.withPlayers(0, 0).movesTo(0, 9), -1);
    }

    /** Read when the test runs, as the compiler would put the number here. */
    private static int noneOfTheClass() {
        try {
            return HourglassTag.class.getField("NONE").getInt(null);
        } catch (ReflectiveOperationException e) {
            throw new IllegalStateException(e);
        }
    }

    private static void unchanged(Check c, String what, Consumer<HourglassTag> look) {
        HourglassTag x = Games.busy();
        look.accept(x);
        look.accept(x);
        c.same("behind " + what, Games.picture(x), Games.picture(Games.busy()));
    }

    private static void looks_changeNothing(Check c) {
        unchanged(c, "all looks", Games::looks);
        unchanged(c, "tower", x -> x.tower(3, 1));
        unchanged(c, "playerOf", x -> x.playerOf(1, 8));
        unchanged(c, "count", x -> x.count(6));
        unchanged(c, "setting", x -> x.setting(0));
    }

    private static void whatWouldBe_changesNothing(Check c) {
        for (int tower = 0; tower <= 9; tower++) {
            int t = tower;
            unchanged(c, "price", x -> x.price(t, 9 - t, 0));
            unchanged(c, "price, told the other way", x -> x.price(t, 9 - t, 1));
            for (int p = 0; p < 3; p++) {
                int player = p;
                unchanged(c, "whyNot", x -> x.whyNot(player, t));
                unchanged(c, "movesTo", x -> x.movesTo(player, t));
            }
        }
        unchanged(c, "prey", HourglassTag::prey);
        unchanged(c, "lookout", HourglassTag::lookout);
        unchanged(c, "belowShare", HourglassTag::belowShare);
        unchanged(c, "digest", HourglassTag::digest);
        movesToAnswersTwiceTheSame(c);
    }

    private static void movesToAnswersTwiceTheSame(Check c) {
        HourglassTag x = Games.busy();
        for (int player = 0; player < 3; player++) {
            for (int tower = 0; tower <= 9; tower++) {
                int first = x.movesTo(player, tower);
                c.same("movesTo again", x.movesTo(player, tower), first);
                c.same("movesTo on another object", Games.busy().movesTo(player, tower), first);
            }
        }
    }
}
