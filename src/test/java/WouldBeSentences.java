/** The tests of the sentences of the promises 20 to 25, and those of DigestSentences. */
final class WouldBeSentences {
    private static final String TO_LEAVE_NONE = "";
    private static final String NO_TOWER = "Throws `IndexOutOfBoundsException` if there is no such tower";
    private static final String NO_PLAYER_OR_TOWER =
        "Throws `IndexOutOfBoundsException` if there is no such player or tower";

    private WouldBeSentences() {
    }

    static void addTo(Sentences all) {
        price(all);
        whyNot(all);
        movesTo(all);
        prey(all);
        lookout(all);
        belowShare(all);
        DigestSentences.addTo(all);
    }

    private static void price(Sentences all) {
        String p = "Promise 20";
        String call = "public int price(";
        all.test(p, "Returns the cheapest price of a way.", WouldBeSentences::promise20_returnsTheCheapestPrice)
            .broken(call, "ways.cheapestBySettling(from, to)", "ways.cheapestBySettling(to, from)")
            .broken(call, "ways.cheapestByGoingOver(from, to)", "ways.cheapestByGoingOver(to, from)")
            .broken(call, "ways.layOut(game);", "if (game.settings[APART] > 0) { ways.layOut(game); }");
        all.test(p, "- `from`: 0 to 9", WouldBeSentences::promise20_fromIs0To9)
            .broken(call, "if (!isTower(from) ||", "if (from < 1 || from > 9 ||")
            .broken(call, "if (!isTower(from) ||", "if (from < 0 || from > 8 ||");
        all.test(p, "- `to`: 0 to 9", WouldBeSentences::promise20_toIs0To9)
            .broken(call, "|| !isTower(to)) {", "|| to < 1 || to > 9) {")
            .broken(call, "|| !isTower(to)) {", "|| to < 0 || to > 8) {");
        all.test(p, "- `what`: 0: told by the cheapest tower that is not settled yet, one after the other;",
                WouldBeSentences::promise20_0BySettling)
            .broken("cost[tower] < cost[best]", "cost[tower] > cost[best]")
            .broken("if (!settled[tower] &&", "if (")
            .broken("round < TOWERS", "round < 2");
        all.test(p, "1: told by towers that ways may go over, one more after the other",
                WouldBeSentences::promise20_1ByGoingOver)
            .broken("int over = 0; over < TOWERS", "int over = 2; over < TOWERS")
            .broken("int over = 0; over < TOWERS", "int over = 0; over < 8");
        all.test(p, "Returns the price (the same for both).", WouldBeSentences::promise20_theSameForBoth)
            .broken("return sum[from][to];", "return single[from][to];")
            .broken("return cost[to];", "return single[from][to];");
        all.test(p, NO_TOWER, WouldBeSentences::promise20_throwsIfNoSuchTower)
            .broken(call, "if (!isTower(from) || !isTower(to)) {", "if (!isTower(from)) {")
            .broken(call, "if (!isTower(from) || !isTower(to)) {", "if (!isTower(to)) {")
            .broken(call, "if (!isTower(from) || !isTower(to)) {", "if (from < 0 || to < 0) {")
            .broken(call, "if (!isTower(from) || !isTower(to)) {", "if (from > 9 || to > 9) {");
        all.test(p, "Throws `IllegalArgumentException` if what is not 0 or 1",
                c -> c.throwsOutside("price", Games.ARGUMENT, Games::busy, 0, 1, (x, what) -> x.price(0, 9, what)))
            .broken("if (what != 0 && what != 1) {", "if (what < 0) {")
            .broken("if (what != 0 && what != 1) {", "if (what > 1) {")
            .broken("if (what != 0 && what != 1) {", "if (what < 0 || what > 2) {");
    }

    private static void promise20_returnsTheCheapestPrice(Check c) {
        HourglassTag x = Games.withHeights(0, 3, 1);
        for (int what = 0; what <= 1; what++) {
            c.same("up", x.price(0, 1, what), 5);
            c.same("down", x.price(1, 0, what), 2);
            c.same("over a hill", x.price(0, 2, what), 7);
            c.same("back", x.price(2, 0, what), 6);
            c.same("to the end", x.price(0, 9, what), 21);
        }
        x.set(1, 9);
        for (int what = 0; what <= 1; what++) {
            c.same("dear", x.price(0, 9, what), 84);
        }
        x.set(1, 0);
        for (int what = 0; what <= 1; what++) {
            c.same("only heights", x.price(0, 9, what), 3);
            c.same("nothing", x.price(1, 9, what), 0);
        }
        HourglassTag highest = Games.withHeights(0, 9, 0, 9, 0, 9, 0, 9, 0, 9);
        highest.set(1, 9);
        c.same("the dearest of all", highest.price(0, 9, 0), 90);
        c.same("the dearest of all, told the other way", highest.price(0, 9, 1), 90);
    }

    private static void promise20_fromIs0To9(Check c) {
        for (int from = 0; from <= 9; from++) {
            c.same("from " + from, new HourglassTag().price(from, 5, 0), 2 * Math.abs(from - 5));
            c.same("from " + from, new HourglassTag().price(from, 5, 1), 2 * Math.abs(from - 5));
        }
    }

    private static void promise20_toIs0To9(Check c) {
        for (int to = 0; to <= 9; to++) {
            c.same("to " + to, new HourglassTag().price(5, to, 0), 2 * Math.abs(to - 5));
            c.same("to " + to, new HourglassTag().price(5, to, 1), 2 * Math.abs(to - 5));
        }
    }

    /** From each hollow to each other one the way goes over every top between them. */
    private static HourglassTag tops() {
        return Games.withHeights(0, 5, 0, 6, 0, 7, 0, 8, 0, 9);
    }

    private static void overTops(Check c, int what) {
        int[] fromFirst = {0, 7, 9, 12, 14, 17, 19, 22, 24, 27};
        int[] fromLast = {18, 16, 14, 12, 10, 8, 6, 4, 2, 0};
        int[] fromHollow = {24, 22, 20, 18, 16, 14, 12, 10, 0, 11};
        for (int to = 0; to <= 9; to++) {
            c.same("from the first to " + to, tops().price(0, to, what), fromFirst[to]);
            c.same("from the last to " + to, tops().price(9, to, what), fromLast[to]);
            c.same("from 8 to " + to, tops().price(8, to, what), fromHollow[to]);
        }
    }

    private static void promise20_0BySettling(Check c) {
        overTops(c, 0);
    }

    private static void promise20_1ByGoingOver(Check c) {
        overTops(c, 1);
        HourglassTag hidden = Games.withHeights(0, 0, 0, 0, 0, 0, 0, 3, 9, 3);
        c.same("over 8 alone", hidden.price(7, 9, 1), 2 + 6 + 2);
        c.same("over 8 alone, the other way", hidden.price(9, 7, 1), 2 + 6 + 2);
        HourglassTag first = Games.withHeights(3, 9, 3);
        c.same("over 1 alone", first.price(0, 2, 1), 2 + 6 + 2);
    }

    private static void promise20_theSameForBoth(Check c) {
        for (int hills = 0; hills < 30; hills++) {
            HourglassTag x = new HourglassTag();
            for (int tower = 0; tower <= 9; tower++) {
                x.height(tower, (hills * 13 + tower * tower * 7 + tower * hills) % 10);
            }
            x.set(1, hills % 10);
            for (int from = 0; from <= 9; from++) {
                for (int to = 0; to <= 9; to++) {
                    c.same("hills " + hills + ", " + from + " to " + to, x.price(from, to, 0), x.price(from, to, 1));
                }
            }
        }
    }

    private static void promise20_throwsIfNoSuchTower(Check c) {
        for (int w = 0; w <= 1; w++) {
            int what = w;
            c.throwsOutside("from", Games.INDEX, Games::busy, 0, 9, (x, from) -> x.price(from, 5, what));
            c.throwsOutside("to", Games.INDEX, Games::busy, 0, 9, (x, to) -> x.price(5, to, what));
            c.throwsOutside("both", Games.INDEX, Games::busy, 0, 9, (x, tower) -> x.price(tower, tower, what));
        }
    }

    private static void whyNot(Sentences all) {
        String p = "Promise 21";
        String call = "public int whyNot(";
        all.test(p, "Tells why a stride would be refused, if a player was on the move.",
                WouldBeSentences::promise21_tellsWhyAStrideWouldBeRefused)
            .broken(call, "game.refusalOfStride(player, tower)", "game.refusalOfStride(game.onMove, tower)")
            .broken(call, "return game.refusalOfStride(player, tower)",
                "return player != game.onMove ? 5 : game.refusalOfStride(player, tower)");
        all.test(p, "- `player`: the number", WouldBeSentences::promise21_playerIsTheNumber)
            .broken(call, "!game.hasPlayer(player)", "player < 1 || !game.hasPlayer(player)")
            .broken(call, "!game.hasPlayer(player)", "player > 2 || !game.hasPlayer(player)");
        all.test(p, "- `tower`: 0 to 9", WouldBeSentences::promise21_towerIs0To9)
            .broken(call, "!isTower(tower)", "tower < 1 || tower > 9")
            .broken(call, "!isTower(tower)", "tower < 0 || tower > 8");
        all.test(p, "Returns 0 if it would not be; otherwise the reason.",
                WouldBeSentences::promise21_returns0OrTheReason)
            .broken(call, "return game.refusalOfStride(player, tower)",
                "return Math.min(1, game.refusalOfStride(player, tower))")
            .broken(call, "return game.refusalOfStride(player, tower)",
                "return game.refusalOfStride(player, tower) == 0 ? NONE : game.refusalOfStride(player, tower)");
        all.test(p, NO_PLAYER_OR_TOWER, c -> throwsIfNoSuchPlayerOrTower(c, HourglassTag::whyNot))
            .broken(call, "!game.hasPlayer(player) || !isTower(tower)", "!game.hasPlayer(player)")
            .broken(call, "!game.hasPlayer(player) || !isTower(tower)", "!isTower(tower)")
            .broken(call, "!isTower(tower)", "tower < 0")
            .broken(call, "!isTower(tower)", "tower > 9");
    }

    private interface PlayerAndTower {
        int on(HourglassTag x, int player, int tower);
    }

    private static void throwsIfNoSuchPlayerOrTower(Check c, PlayerAndTower call) {
        c.throwsOn("without players", Games.INDEX, Games::empty, x -> call.on(x, 0, 0));
        c.throwsOutside("player of 1", Games.INDEX, () -> Games.withPlayers(4, 9), 0, 0, (x, i) -> call.on(x, i, 4));
        c.throwsOutside("player of 3", Games.INDEX, Games::busy, 0, 2, (x, i) -> call.on(x, i, 9));
        c.throwsOutside("player of 4", Games.INDEX, Games::full, 0, 3, (x, i) -> call.on(x, i, 0));
        for (int p = 0; p <= 2; p++) {
            int player = p;
            c.throwsOutside("tower", Games.INDEX, Games::busy, 0, 9, (x, tower) -> call.on(x, player, tower));
        }
        c.throwsOutside("both", Games.INDEX, Games::busy, 0, 2, (x, both) -> call.on(x, both, both));
    }

    private static void promise21_tellsWhyAStrideWouldBeRefused(Check c) {
        HourglassTag x = Games.withHeights(2, 0, 5, 0, 3, 9);
        x.player(0, 100);
        x.player(4, 10);
        x.set(0, 7);
        Games.rest(x, 2);
        int[] zero = {1, 0, 0, 2, 2, 3, 2, 2, 2, 2};
        int[] one = {2, 2, 0, 0, 1, 3, 2, 2, 2, 2};
        for (int tower = 0; tower <= 9; tower++) {
            c.same("0, on the move, to " + tower, x.whyNot(0, tower), zero[tower]);
            c.same("1, not on the move, to " + tower, x.whyNot(1, tower), one[tower]);
        }
        c.same("as the stride itself", x.stride(5), 3);
        x.rest();
        for (int tower = 0; tower <= 9; tower++) {
            c.same("1, on the move, to " + tower, x.whyNot(1, tower), one[tower]);
        }
        c.same("nothing more is refused", x.count(4), 1);
    }

    private static void promise21_playerIsTheNumber(Check c) {
        HourglassTag x = Games.withPlayers(0, 9, 3, 9, 6, 9, 9, 9);
        int[] towers = {0, 3, 6, 9};
        for (int player = 0; player < 4; player++) {
            for (int tower : towers) {
                c.same("player " + player, x.whyNot(player, tower), tower == towers[player] ? 1 : 3);
            }
        }
    }

    private static void promise21_towerIs0To9(Check c) {
        HourglassTag x = Games.alone(5, 20);
        for (int tower = 0; tower <= 9; tower++) {
            c.same("tower " + tower, x.whyNot(0, tower), tower == 5 ? 1 : 0);
        }
    }

    private static void promise21_returns0OrTheReason(Check c) {
        HourglassTag x = Games.alone(4, 3);
        x.height(6, 1);
        c.same("0", x.whyNot(0, 5), 0);
        c.same("1", x.whyNot(0, 4), 1);
        c.same("2", x.whyNot(0, 7), 2);
        c.same("3", x.whyNot(0, 6), 3);
        c.same("the price is all that is below", Games.alone(4, 2).whyNot(0, 5), 0);
        c.same("one grain is missing", Games.alone(4, 1).whyNot(0, 5), 3);
        HourglassTag none = Games.withPlayers(4, 0);
        none.set(1, 0);
        c.same("nothing of nothing", none.whyNot(0, 5), 0);
    }

    private static void movesTo(Sentences all) {
        String p = "Promise 22";
        String call = "public int movesTo(";
        all.test(p, "Tells in how many turns of the own a player could stand on a tower, if all others only wait.",
                WouldBeSentences::promise22_turnsOfTheOwnIfOthersWait)
            .broken(call, "return walk.fewestTurns(game, ways, player, tower);",
                "int turns = walk.fewestTurns(game, ways, player, tower); return turns * game.players;")
            .broken(call, "return walk.fewestTurns(game, ways, player, tower);",
                "int turns = walk.fewestTurns(game, ways, player, tower); return player == game.onMove ? turns "
                    + ": turns + 1;")
            .broken(call, "return walk.fewestTurns(game, ways, player, tower);",
                "return walk.fewestTurns(game, ways, game.onMove, tower);");
        all.test(p, "- `player`: the number", WouldBeSentences::promise22_playerIsTheNumber)
            .broken(call, "!game.hasPlayer(player)", "player < 1 || !game.hasPlayer(player)")
            .broken(call, "!game.hasPlayer(player)", "player > 2 || !game.hasPlayer(player)");
        all.test(p, "- `tower`: 0 to 9", WouldBeSentences::promise22_towerIs0To9)
            .broken(call, "!isTower(tower)", "tower < 1 || tower > 9")
            .broken(call, "!isTower(tower)", "tower < 0 || tower > 8");
        all.test(p, "Returns the fewest own moves, 0 to 4, of waiting, striding and turning over",
                WouldBeSentences::promise22_fewestOwnMoves0To4)
            .broken("if (game.place[player] == tower) {\n                return 0;", "return 0;", "return 1;")
            .broken("return reachesBehindRun(walk, ways, at, above, below, turns)\n                    || ",
                "return reachesBehindRun(walk, ways, at, above, below, turns)\n                    || ", "return ")
            .broken("                    || reachesBehindTurn(walk, ways, at, above, below, turns)", TO_LEAVE_NONE)
            .broken("                    || reachesBehindStride(walk, ways, at, above, below, turns)", TO_LEAVE_NONE)
            .broken("ways.single[at][walk.goal] <= below", "ways.single[at][walk.goal] < below")
            .broken("boolean reachesBehindTurn(", "if (grains > below) {", "if (grains >= below) {")
            .broken("boolean reachesBehindTurn(", "walk.lying[at] += grains;", TO_LEAVE_NONE)
            .broken("boolean reachesBehindTurn(", "walk.lying[at] -= grains;", TO_LEAVE_NONE)
            .broken("boolean reachesBehindStride(", "if (to != at && grains <= below) {",
                "if (to != at && grains < below) {")
            .broken("boolean reachesBehindStride(", "walk.lying[at] += grains;", TO_LEAVE_NONE)
            .broken("boolean reachesBehindStride(", "int gathered = walk.lying[to];", "int gathered = 0;")
            .broken("boolean reachesBehindStride(", "walk.lying[to] = 0;", TO_LEAVE_NONE)
            .broken("boolean reachesBehindStride(", "walk.lying[to] = gathered;", TO_LEAVE_NONE)
            .broken("boolean reachesBehindRun(", "Math.min(walk.running, above)", "walk.running");
        all.test(p, "(9999 moves do not matter);", WouldBeSentences::promise22_9999MovesDoNotMatter)
            .broken(call, "return walk.fewestTurns(game, ways, player, tower);",
                "return game.moves >= 9996 ? NONE : walk.fewestTurns(game, ways, player, tower);");
        all.test(p, "NONE if more are needed.", WouldBeSentences::promise22_noneIfMoreAreNeeded)
            .broken("MOST_TURNS_AHEAD = 4", "MOST_TURNS_AHEAD = 5")
            .broken("MOST_TURNS_AHEAD = 4", "MOST_TURNS_AHEAD = 3")
            .broken("int fewestTurns(", "return NONE;", "return 5;");
        all.test(p, NO_PLAYER_OR_TOWER, c -> throwsIfNoSuchPlayerOrTower(c, HourglassTag::movesTo))
            .broken(call, "!game.hasPlayer(player) || !isTower(tower)", "!game.hasPlayer(player)")
            .broken(call, "!game.hasPlayer(player) || !isTower(tower)", "!isTower(tower)")
            .broken(call, "!isTower(tower)", "tower < 0")
            .broken(call, "!isTower(tower)", "tower > 9");
    }

    private static void promise22_turnsOfTheOwnIfOthersWait(Check c) {
        HourglassTag alone = Games.withPlayers(2, 30);
        HourglassTag x = Games.withPlayers(2, 30, 2, 30, 3, 200, 7, 0);
        for (int onMove = 0; onMove < 4; onMove++) {
            for (int tower = 0; tower <= 9; tower++) {
                c.same("to " + tower + " while " + onMove + " is on the move", x.movesTo(0, tower),
                    onMove == 0 ? alone.movesTo(0, tower) : afterOwnWait(tower));
            }
            x.rest();
        }
        c.same("there", x.movesTo(0, 2), 0);
        c.same("a wait behind, one stride", x.movesTo(0, 3), 1);
        c.same("while the other is not on the move", x.movesTo(1, 3), 1);
        c.same("who has no sand", x.movesTo(3, 6), -1);
    }

    private static int afterOwnWait(int tower) {
        HourglassTag alone = Games.withPlayers(2, 30);
        alone.rest();
        return alone.movesTo(0, tower);
    }

    private static void promise22_playerIsTheNumber(Check c) {
        HourglassTag x = Games.withPlayers(0, 0, 3, 0, 6, 0, 9, 0);
        int[] towers = {0, 3, 6, 9};
        for (int player = 0; player < 4; player++) {
            for (int tower : towers) {
                c.same("player " + player, x.movesTo(player, tower), tower == towers[player] ? 0 : -1);
            }
        }
    }

    private static void promise22_towerIs0To9(Check c) {
        for (int from = 0; from <= 9; from++) {
            HourglassTag x = Games.alone(from, 20);
            for (int tower = 0; tower <= 9; tower++) {
                c.same("from " + from + " to " + tower, x.movesTo(0, tower), tower == from ? 0 : 1);
            }
        }
    }

    private static void promise22_fewestOwnMoves0To4(Check c) {
        HourglassTag x = Games.withPlayers(4, 20);
        x.set(0, 1);
        x.set(1, 1);
        x.set(2, 20);
        int[] byWaiting = {-1, 4, 3, 2, 0, 2, 3, 4, -1, -1};
        for (int tower = 0; tower <= 9; tower++) {
            c.same("by waiting, to " + tower, x.movesTo(0, tower), byWaiting[tower]);
        }
        x.set(2, 1);
        c.same("wait, turn, stride", x.movesTo(0, 8), 3);
        c.same("wait, stride is as short", x.movesTo(0, 5), 2);
        x.set(2, 0);
        c.same("turn, stride", x.movesTo(0, 8), 2);
        HourglassTag hill = Games.alone(4, 9);
        hill.height(5, 5);
        c.same("the price is all that is below, and 3 run", Games.alone(4, 8).movesTo(0, 8), 1);
        c.same("over a hill", hill.movesTo(0, 6), 2);
        c.same("with all that is left", exactly().movesTo(0, 6), 2);
        movesToGathers(c);
        movesToGathersWhatAStrideLeft(c);
        movesToGathersWhatATurnLeft(c);
        movesToGathersNothingTwice(c);
        movesToRunsNoMoreThanThereIs(c);
    }

    /** 7 below, 0 above: 7 for the hill, and 0 for the way down. */
    private static HourglassTag exactly() {
        HourglassTag x = Games.withPlayers(4, 7);
        x.set(0, 20);
        x.rest();
        x.set(1, 0);
        x.height(5, 7);
        return x;
    }

    private static void movesToGathers(Check c) {
        HourglassTag x = Games.withPlayers(4, 8, 5, 0);
        x.set(0, 4);
        x.set(1, 4);
        x.set(2, 20);
        x.rest();
        x.rest();
        x.stride(5);
        c.same("4 lie on 4", x.tower(4, 1), 4);
        c.same("4 below, nothing above", Games.glass(x, 0), "5/0/4");
        c.same("back, where 4 are gathered", x.movesTo(0, 4), 1);
        c.same("back, all 4 run, on", x.movesTo(0, 3), 2);
        c.same("back and forth leaves all behind", x.movesTo(0, 2), -1);
    }

    /** 5 grains lie on 7: there, back for the one that was left on 6, and on with all 6. */
    private static void movesToGathersWhatAStrideLeft(Check c) {
        HourglassTag x = Games.withPlayers(6, 2, 7, 5);
        x.set(0, 20);
        Games.rest(x, 3);
        x.set(2, 5);
        x.turnOver();
        c.same("5 lie on 7", x.tower(7, 1), 5);
        c.same("2 below, nothing above", Games.glass(x, 0), "6/0/2");
        x.set(1, 1);
        x.set(2, 20);
        c.same("there, back, on", x.movesTo(0, 0), 3);
    }

    /** Turning over leaves 3 on 4 and brings 8 below; away and back for nothing, one of the 3 runs, 9 are below. */
    private static void movesToGathersWhatATurnLeft(Check c) {
        HourglassTag x = Games.withPlayers(4, 11);
        x.rest();
        c.same("3 below", Games.glass(x, 0), "4/8/3");
        x.set(0, 1);
        x.set(1, 0);
        x.set(2, 3);
        x.height(6, 9);
        c.same("turn, away, back, up", x.movesTo(0, 6), 4);
    }

    private static void movesToGathersNothingTwice(Check c) {
        HourglassTag turns = Games.withPlayers(4, 5);
        turns.set(0, 20);
        turns.rest();
        turns.set(1, 0);
        turns.set(2, 5);
        turns.height(6, 9);
        c.same("what a turn would leave is not there without it", turns.movesTo(0, 6), -1);
        HourglassTag again = Games.withPlayers(4, 1, 5, 4);
        again.set(0, 20);
        Games.rest(again, 3);
        again.set(2, 4);
        again.turnOver();
        c.same("4 lie on 5", again.tower(5, 1), 4);
        again.set(1, 0);
        again.set(2, 20);
        again.height(6, 6);
        c.same("5 in all, though 5 is passed twice", again.movesTo(0, 6), -1);
        again.height(6, 5);
        c.same("5 are enough for 5", again.movesTo(0, 6), 2);
    }

    private static void movesToRunsNoMoreThanThereIs(Check c) {
        HourglassTag x = Games.withPlayers(4, 5);
        x.set(0, 20);
        x.set(2, 0);
        c.same("5 run, not 20: 4 for 2 towers", x.movesTo(0, 6), 2);
        c.same("6 are too much", x.movesTo(0, 7), -1);
    }

    private static void promise22_9999MovesDoNotMatter(Check c) {
        HourglassTag x = Games.withPlayers(4, 200);
        x.set(2, 20);
        Games.rest(x, 9995);
        x.player(4, 9);
        for (int moves = 9995; moves <= 9999; moves++) {
            c.same("behind " + moves + " moves, there", x.movesTo(1, 4), 0);
            c.same("2 below, one stride", x.movesTo(0, 5), 1);
            c.same("1, who waits first, or has waited", x.movesTo(1, 5), moves <= 9996 ? 2 : 1);
            if (moves < 9999) {
                x.rest();
            }
        }
    }

    private static void promise22_noneIfMoreAreNeeded(Check c) {
        HourglassTag x = Games.withPlayers(4, 20);
        x.set(0, 1);
        x.set(1, 1);
        x.set(2, 20);
        c.same("3 waits and a stride", x.movesTo(0, 7), 4);
        c.same("4 waits and a stride", x.movesTo(0, 8), -1);
        c.same("5 waits and a stride", x.movesTo(0, 9), -1);
        x.rest();
        c.same("3 waits and a stride are left", x.movesTo(0, 8), 4);
        c.same("4 are too many still", x.movesTo(0, 9), -1);
        c.same("never", Games.withPlayers(4, 0).movesTo(0, 5), -1);
        c.same("at once", Games.withPlayers(4, 0).movesTo(0, 4), 0);
    }

    private static void prey(Sentences all) {
        String p = "Promise 23";
        all.test(p, "Finds whom the one who is it could tag now, if on the move.",
                WouldBeSentences::promise23_whomWhoIsItCouldTag)
            .broken("int playersInReachOfIt(", "refusalOfTag(it, other)", "refusalOfTag(onMove, other)")
            .broken("int playersInReachOfIt(", "== NOT_REFUSED", "!= TOO_FAR")
            .broken("int playersInReachOfIt(", "== NOT_REFUSED", "!= NOT_SEEN")
            .broken("public int prey(", "return",
                "if (game.players > 0 && game.it != game.onMove) { return 0; } return");
        all.test(p, "Returns the players, as a mask;", WouldBeSentences::promise23_asAMask)
            .broken("int playersInReachOfIt(", "mask |= 1 << other;", "mask++;")
            .broken("int playersInReachOfIt(", "int other = 0;", "int other = 1;")
            .broken("int playersInReachOfIt(", "other < players;", "other < Math.min(3, players);");
        all.test(p, "0 without players.", WouldBeSentences::promise23_0WithoutPlayers)
            .broken("public int prey(", "return", "if (game.players == 0) { return NONE; } return")
            .broken("int playersInReachOfIt(", "other < players;", "other < MOST_PLAYERS;");
    }

    private static void promise23_whomWhoIsItCouldTag(Check c) {
        HourglassTag x = Games.withPlayers(3, 30, 4, 30, 5, 30, 3, 30);
        c.same("1 and 3 are near", x.prey(), 0b1010);
        x.set(3, 2);
        c.same("2 is near too", x.prey(), 0b1110);
        x.height(4, 1);
        c.same("2 is hidden", x.prey(), 0b1010);
        x.set(3, 0);
        c.same("on the same tower", x.prey(), 0b1000);
        x.rest();
        c.same("who is it is not on the move", x.prey(), 0b1000);
        x.set(3, 1);
        Games.rest(x, 3);
        x.tag(1);
        c.same("1 is it now", x.prey(), 0b1101);
        x.rest();
        c.same("1 is it, not on the move", x.prey(), 0b1101);
    }

    private static void promise23_asAMask(Check c) {
        c.same("alone", Games.withPlayers(3, 30).prey(), 0);
        for (int mask = 0; mask < 8; mask++) {
            HourglassTag x = Games.withPlayers(0, 9);
            for (int player = 1; player <= 3; player++) {
                x.player((mask >> player - 1 & 1) == 1 ? 1 : 9, 9);
            }
            c.same("prey of 0", x.prey(), mask << 1);
        }
        HourglassTag last = Games.withPlayers(5, 9, 5, 9, 5, 9, 5, 9);
        last.tag(3);
        c.same("prey of 3", last.prey(), 0b0111);
    }

    private static void promise23_0WithoutPlayers(Check c) {
        HourglassTag x = new HourglassTag();
        c.same("a new object", x.prey(), 0);
        x.player(0, 9);
        x.player(0, 9);
        c.same("with two", x.prey(), 0b10);
        x.undo();
        c.same("with one", x.prey(), 0);
        x.undo();
        c.same("without players again", x.prey(), 0);
        x.set(3, 9);
        c.same("with the farthest reach", x.prey(), 0);
    }

    private static void lookout(Sentences all) {
        String p = "Promise 24";
        all.test(p, "Finds the tower from which most is seen.", WouldBeSentences::promise24_fromWhichMostIsSeen)
            .broken("int towerThatSeesMost(", "if (seen > most) {", "if (heights[tower] > heights[best]) {")
            .broken("int towerThatSeesMost(", "most = seen;", TO_LEAVE_NONE);
        all.test(p, "Returns of the towers that see most towers the lowest one.",
                WouldBeSentences::promise24_theLowestOne)
            .broken("int towerThatSeesMost(", "if (seen > most) {", "if (seen >= most) {")
            .broken("int towerThatSeesMost(", "int tower = 0;", "int tower = 1;");
    }

    private static void promise24_fromWhichMostIsSeen(Check c) {
        for (int top = 0; top <= 9; top++) {
            HourglassTag x = new HourglassTag();
            x.height(top, 1);
            c.same("a hill at " + top, x.lookout(), top == 9 ? 0 : top);
        }
        HourglassTag two = Games.withHeights(0, 9, 0, 0, 0, 8, 0, 0, 9, 0);
        c.same("1 and 8 see all", two.lookout(), 1);
        two.height(1, 0);
        c.same("8 sees all", two.lookout(), 8);
        HourglassTag lowSeesMore = Games.withHeights(0, 0, 0, 0, 0, 0, 0, 8, 9, 8);
        c.same("7 sees all but 9, 8 sees all", lowSeesMore.lookout(), 8);
        HourglassTag end = Games.withHeights(0, 1, 0, 2, 0, 3, 0, 4, 0, 9);
        c.same("7 sees all, as 9 does", end.lookout(), 7);
    }

    /** The lowest one is read as the one with the lowest number, as several can be as high. */
    private static void promise24_theLowestOne(Check c) {
        c.same("all see all", new HourglassTag().lookout(), 0);
        HourglassTag high = Games.withHeights(9, 9, 9, 9, 9, 9, 9, 9, 9, 9);
        c.same("all see all from 9", high.lookout(), 0);
        for (int first = 1; first <= 8; first++) {
            for (int second = first + 1; second <= 8; second++) {
                HourglassTag x = new HourglassTag();
                x.height(first, 5);
                x.height(second, 5);
                c.same("hills at " + first + " and " + second, x.lookout(), first);
            }
        }
        HourglassTag rising = Games.withHeights(0, 0, 5, 0, 6, 0, 7);
        c.same("6 sees all alone", rising.lookout(), 6);
        HourglassTag falling = Games.withHeights(0, 0, 7, 0, 0, 0, 0, 0, 8, 9);
        c.same("2, 8 and 9 see all", falling.lookout(), 2);
    }

    private static void belowShare(Sentences all) {
        String p = "Promise 25";
        all.test(p, "Returns how much sand is below.", WouldBeSentences::promise25_howMuchSandIsBelow)
            .broken("(double) sandBelow() / (double) inGlasses",
                "(double) (inGlasses - sandBelow()) / (double) inGlasses");
        all.test(p, "Returns the sand below of all players as a double, divided by the sand in glasses;",
                WouldBeSentences::promise25_belowOfAllDividedByGlasses)
            .broken("(double) sandBelow() / (double) inGlasses", "(double) sandBelow() / (double) brought")
            .broken("(double) sandBelow() / (double) inGlasses", "(double) (sandBelow() / inGlasses)")
            .broken("(double) sandBelow() / (double) inGlasses", "(double) ((float) sandBelow() / (float) inGlasses)")
            .broken("int sandBelow(", "player < players;", "player < players - 1;")
            .broken("int sandBelow(", "int player = 0;", "int player = 1;");
        all.test(p, "0.0 without this.", WouldBeSentences::promise25_0WithoutSandInGlasses)
            .broken("if (inGlasses <= 0) {\n                return 0.0;", "return 0.0;", "return 1.0;")
            .broken("if (inGlasses <= 0) {", "if (inGlasses < 0) {");
    }

    private static void promise25_howMuchSandIsBelow(Check c) {
        HourglassTag x = Games.withPlayers(4, 9);
        for (double due : new double[] {0.0, 3.0 / 9.0, 6.0 / 9.0, 1.0, 1.0}) {
            c.same("share", x.belowShare(), due);
            x.rest();
        }
    }

    private static void promise25_belowOfAllDividedByGlasses(Check c) {
        HourglassTag x = Games.withPlayers(4, 10, 4, 20, 4, 31, 4, 40);
        c.same("all above", x.belowShare(), 0.0);
        for (int move = 1; move <= 8; move++) {
            x.rest();
            c.same("behind " + move + " waits", x.belowShare(), 3.0 * move / 101.0);
        }
        x.stride(5);
        c.same("without what lies on towers", x.belowShare(), (24.0 - 2.0 + 3.0) / 99.0);
        HourglassTag least = Games.withPlayers(4, 200, 4, 200, 4, 200, 4, 200);
        least.set(0, 1);
        least.rest();
        c.same("the least share", least.belowShare(), 1.0 / 800.0);
        HourglassTag most = Games.withPlayers(4, 0, 4, 0, 4, 0, 4, 1);
        Games.rest(most, 4);
        c.same("the most share", most.belowShare(), 1.0);
    }

    private static void promise25_0WithoutSandInGlasses(Check c) {
        c.same("without players", new HourglassTag().belowShare(), 0.0);
        HourglassTag x = Games.withPlayers(4, 0, 5, 0);
        c.same("players without sand", x.belowShare(), 0.0);
        HourglassTag paid = Games.withPlayers(4, 3);
        paid.rest();
        paid.set(2, 3);
        paid.turnOver();
        c.same("all sand lies on towers", paid.count(8), 3);
        c.same("no sand is in glasses", paid.belowShare(), 0.0);
    }
}
