import java.util.function.IntSupplier;

/** The tests of the sentences of the promises 16 to 19, and those of WouldBeSentences. */
final class LookSentences {
    private static final String TO_LEAVE_NONE = "";
    private static final String NO_TOWER = "Throws `IndexOutOfBoundsException` if there is no such tower";
    private static final String NO_PLAYER = "Throws `IndexOutOfBoundsException` if there is no such player";

    private LookSentences() {
    }

    static void addTo(Sentences all) {
        tower(all);
        playerOf(all);
        playerOfCounts(all);
        count(all);
        countOfSand(all);
        setting(all);
        WouldBeSentences.addTo(all);
    }

    private static void tower(Sentences all) {
        String p = "Promise 16";
        String call = "public int tower(";
        all.test(p, "Returns a property of a tower.", LookSentences::promise16_returnsAProperty)
            .broken(call, "return towerProperty(tower, what);", "return towerProperty(0, what);")
            .broken(call, "return towerProperty(tower, what);", "return towerProperty(tower, 0);");
        all.test(p, "- `tower`: 0 to 9", LookSentences::promise16_towerIs0To9)
            .broken(call, "if (!isTower(tower)) {", "if (tower < 1 || tower > 9) {")
            .broken(call, "if (!isTower(tower)) {", "if (tower < 0 || tower > 8) {");
        all.test(p, "- `what`: 0: its height;", LookSentences::promise16_0Height)
            .broken("return game.heights[tower];", "return game.lying[tower];")
            .broken("return game.heights[tower];", "return Math.min(8, game.heights[tower]);");
        all.test(p, "1: the sand that lies on it;", LookSentences::promise16_1Sand)
            .broken("return game.lying[tower];", "return game.heights[tower];")
            .broken("return game.lying[tower];", "return game.playersOn(tower) > 0 ? 0 : game.lying[tower];");
        all.test(p, "2: the players on it, as a mask;", LookSentences::promise16_2Players)
            .broken("int playersOn(", "mask |= 1 << player;", "mask++;")
            .broken("int playersOn(", "player < players;", "player < MOST_PLAYERS;")
            .broken("int playersOn(", "player < players;", "player < Math.min(3, players);");
        all.test(p, "3: the towers that it sees, as a mask", LookSentences::promise16_3TowersSeen)
            .broken("int towersSeenFrom(", "if (sees(tower, other)) {", "if (other != tower && sees(tower, other)) {")
            .broken("int towersSeenFrom(", "other < TOWERS;", "other < TOWERS - 1;")
            .broken("int towersSeenFrom(", "int other = 0;", "int other = 1;");
        all.test(p, "Returns the property.", LookSentences::promise16_returnsThatProperty)
            .broken("private int towerProperty(", "case 1:", "case -1:")
            .broken("private int towerProperty(", "case 2:", "case -2:");
        all.test(p, NO_TOWER, c -> {
            for (int w = 0; w <= 3; w++) {
                int what = w;
                c.throwsOutside("tower", Games.INDEX, Games::busy, 0, 9, (x, tower) -> x.tower(tower, what));
            }
        })
            .broken(call, "if (!isTower(tower)) {", "if (tower < 0) {")
            .broken(call, "if (!isTower(tower)) {", "if (tower >= TOWERS) {")
            .broken(call, "if (!isTower(tower)) {", "if (!isTower(tower) && what < 3) {");
        all.test(p, "Throws `IllegalArgumentException` if what is not 0 to 3",
                c -> c.throwsOutside("what", Games.ARGUMENT, Games::busy, 0, 3, (x, what) -> x.tower(9, what)))
            .broken("TOWER_PROPERTIES = 4", "TOWER_PROPERTIES = 5")
            .broken("TOWER_PROPERTIES = 4", "TOWER_PROPERTIES = 3")
            .broken(call, "what < 0 ||", "what < -1 ||")
            .broken(call, "if (what < 0 || what >= TOWER_PROPERTIES) {", "if (what >= TOWER_PROPERTIES) {");
    }

    private static void promise16_returnsAProperty(Check c) {
        HourglassTag x = Games.busy();
        int[][] due = {{0, 0, 0}, {2, 0, 0}, {0, 2, 0}, {0, 0, 3}};
        int[] towers = {0, 5, 4, 3};
        for (int i = 0; i < towers.length; i++) {
            for (int what = 0; what <= 2; what++) {
                c.same("tower " + towers[i] + ", " + what, x.tower(towers[i], what), due[i][what]);
            }
        }
    }

    private static void promise16_towerIs0To9(Check c) {
        HourglassTag x = Games.withHeights(3, 0, 0, 0, 0, 0, 0, 0, 0, 4);
        c.same("the first", x.tower(0, 0), 3);
        c.same("the last", x.tower(9, 0), 4);
        for (int what = 0; what <= 3; what++) {
            c.same("the first, as any", x.tower(0, what), new int[] {3, 0, 0, 1023}[what]);
            c.same("the last, as any", x.tower(9, what), new int[] {4, 0, 0, 1023}[what]);
        }
    }

    private static void promise16_0Height(Check c) {
        for (int height = 0; height <= 9; height++) {
            HourglassTag x = Games.withHeights(height, 0, 0, 0, 9 - height);
            c.same("height", x.tower(0, 0), height);
            c.same("height of another", x.tower(4, 0), 9 - height);
        }
    }

    private static void promise16_1Sand(Check c) {
        HourglassTag x = Games.alone(9, 20);
        c.same("none", x.tower(9, 1), 0);
        x.set(2, 20);
        x.turnOver();
        c.same("20 where the player stands", x.tower(9, 1), 20);
        x.stride(0);
        c.same("20 and 18 that were left", x.tower(9, 1), 38);
        c.same("none on 0", x.tower(0, 1), 0);
    }

    private static void promise16_2Players(Check c) {
        for (int mask = 0; mask < 16; mask++) {
            HourglassTag x = new HourglassTag();
            for (int player = 0; player < 4; player++) {
                x.player((mask >> player & 1) == 1 ? 9 : 0, 5);
            }
            c.same("on 9", x.tower(9, 2), mask);
            c.same("on 0", x.tower(0, 2), 15 - mask);
            c.same("on 5", x.tower(5, 2), 0);
        }
        c.same("without players", new HourglassTag().tower(0, 2), 0);
        c.same("with one", Games.withPlayers(0, 5).tower(0, 2), 1);
    }

    private static void promise16_3TowersSeen(Check c) {
        HourglassTag x = Games.withHeights(0, 3, 1, 3, 4, 0, 9, 0, 0, 2);
        int[] due = {
            0b0001011011, 0b0001011111, 0b0001011110, 0b0001011111, 0b0001111111,
            0b0001110000, 0b1111111111, 0b1111000000, 0b1111000000, 0b1111000000,
        };
        for (int tower = 0; tower <= 9; tower++) {
            c.same("seen from " + tower, x.tower(tower, 3), due[tower]);
            c.same("all are seen on the flat", new HourglassTag().tower(tower, 3), 1023);
        }
    }

    private static void promise16_returnsThatProperty(Check c) {
        HourglassTag x = Games.alone(4, 20);
        x.height(4, 5);
        x.turnOver();
        int[] due = {5, 1, 1, 1023};
        for (int what = 0; what <= 3; what++) {
            c.same("property " + what, x.tower(4, what), due[what]);
        }
        x.player(4, 0);
        c.same("two players", x.tower(4, 2), 3);
    }

    private static void playerOf(Sentences all) {
        String p = "Promise 17";
        String call = "public int playerOf(";
        all.test(p, "Returns a property of a player.", LookSentences::promise17_returnsAProperty)
            .broken(call, "return playerProperty(player, what);", "return playerProperty(0, what);")
            .broken(call, "return playerProperty(player, what);", "return playerProperty(player, 0);");
        all.test(p, "- `player`: the number", LookSentences::promise17_playerIsTheNumber)
            .broken("return player >= 0 && player < players;", "return player >= 1 && player < players;")
            .broken("return player >= 0 && player < players;", "return player >= 0 && player < players - 1;");
        all.test(p, "- `what`: 0: the tower;", LookSentences::promise17_0Tower)
            .broken("return game.place[player];", "return game.place[game.onMove];")
            .broken("return game.place[player];", "return game.above[player];");
        all.test(p, "1: the sand above;", LookSentences::promise17_1Above)
            .broken("return game.above[player];", "return game.below[player];")
            .broken("return game.above[player];", "return Math.max(1, game.above[player]);");
        all.test(p, "2: the sand below;", LookSentences::promise17_2Below)
            .broken("return game.below[player];", "return game.above[player];")
            .broken("return game.below[player];", "return Math.max(1, game.below[player]);");
        all.test(p, "3: 1 if this one is it, otherwise 0;", LookSentences::promise17_3IsIt)
            .broken("return game.it == player ? 1 : 0", "return game.it == player ? 0 : 1")
            .broken("return game.it == player ? 1 : 0", "return game.onMove == player ? 1 : 0");
    }

    private static void playerOfCounts(Sentences all) {
        String p = "Promise 17";
        String call = "public int playerOf(";
        all.test(p, "4: moves made so far;", LookSentences::promise17_4Moves)
            .broken("return game.movesMade[player];", "return game.moves;")
            .broken("refused++;", "refused++; movesMade[onMove]++;")
            .broken("int moveByTurn(", "endMove();", "endMove(); movesMade[0]--;")
            .broken("int moveByStride(", "endMove();", "endMove(); movesMade[0]--;")
            .broken("int moveByTag(", "endMove();", "endMove(); movesMade[0]--;");
        all.test(p, "5: tags made so far;", LookSentences::promise17_5TagsMade)
            .broken("return game.tagsMade[player];", "return game.timesTagged[player];")
            .broken("tagsMade[onMove]++;", "tagsMade[onMove] = 1;")
            .broken("refused++;", "refused++; if (reason >= NOT_IT) { tagsMade[onMove]++; }");
        all.test(p, "6: how often this one was tagged so far;", LookSentences::promise17_6TimesTagged)
            .broken("return game.timesTagged[player];", "return game.tagsMade[player];")
            .broken("timesTagged[other]++;", "timesTagged[other] = 1;");
        all.test(p, "7: grains paid so far, for strides and for turning over;", LookSentences::promise17_7GrainsPaid)
            .broken("grainsPaid[onMove] += grains;", "grainsPaid[onMove] = grains;")
            .broken("int moveByTurn(", "endMove();", "grainsPaid[onMove] -= settings[TURNING]; endMove();")
            .broken("int moveByTag(", "endMove();", "grainsPaid[other] += half; endMove();");
        all.test(p, "8: towers to which this one could stride now, if on the move, as a mask",
                LookSentences::promise17_8TowersToStrideTo)
            .broken("int towersToStrideTo(", "if (refusal", "if (player == onMove && refusal")
            .broken("int towersToStrideTo(", "== NOT_REFUSED", "!= NOT_SEEN")
            .broken("int towersToStrideTo(", "tower < TOWERS;", "tower < TOWERS - 1;")
            .broken("int towersToStrideTo(", "int tower = 0;", "int tower = 1;");
        all.test(p, "Returns the property.", LookSentences::promise17_returnsThatProperty)
            .broken("private int playerProperty(", "case 5:", "case -5:")
            .broken("private int playerProperty(", "case 7:", "case -7:");
        all.test(p, NO_PLAYER, LookSentences::promise17_throwsIfNoSuchPlayer)
            .broken("return player >= 0 && player < players;", "return player >= 0 && player < MOST_PLAYERS;")
            .broken("return player >= 0 && player < players;", "return player >= 0 && player <= players;")
            .broken("return player >= 0 && player < players;", "return player < players;");
        all.test(p, "Throws `IllegalArgumentException` if what is not 0 to 8",
                c -> c.throwsOutside("what", Games.ARGUMENT, Games::busy, 0, 8, (x, what) -> x.playerOf(2, what)))
            .broken("PLAYER_PROPERTIES = 9", "PLAYER_PROPERTIES = 10")
            .broken(call, "what < 0 ||", "what < -1 ||")
            .broken(call, "if (what < 0 || what >= PLAYER_PROPERTIES) {", "if (what >= PLAYER_PROPERTIES) {");
    }

    private static void promise17_returnsAProperty(Check c) {
        HourglassTag x = Games.busy();
        int[][] due = {
            {3, 55, 6, 0, 2, 1, 0, 0}, {3, 44, 3, 1, 2, 0, 1, 2}, {6, 34, 6, 0, 2, 0, 0, 0},
        };
        for (int player = 0; player <= 2; player++) {
            for (int what = 0; what <= 7; what++) {
                c.same("player " + player + ", " + what, x.playerOf(player, what), due[player][what]);
            }
        }
    }

    private static void promise17_playerIsTheNumber(Check c) {
        for (int players = 1; players <= 4; players++) {
            HourglassTag x = new HourglassTag();
            for (int player = 0; player < players; player++) {
                x.player(9 - player, 10 * player);
            }
            for (int player = 0; player < players; player++) {
                c.same("of " + players, Games.glass(x, player), 9 - player + "/" + 10 * player + "/0");
            }
        }
    }

    private static void promise17_0Tower(Check c) {
        HourglassTag x = Games.withPlayers(0, 7, 9, 7, 5, 7);
        x.set(1, 0);
        x.rest();
        x.stride(3);
        c.same("the first tower", x.playerOf(0, 0), 0);
        c.same("behind a stride", x.playerOf(1, 0), 3);
        c.same("another one", x.playerOf(2, 0), 5);
    }

    private static void promise17_1Above(Check c) {
        HourglassTag x = Games.withPlayers(5, 0, 5, 200, 5, 4);
        int[][] due = {{0, 200, 4}, {0, 197, 1}, {0, 194, 0}, {0, 191, 0}};
        for (int round = 0; round < due.length; round++) {
            for (int player = 0; player <= 2; player++) {
                c.same("above in round " + round, x.playerOf(player, 1), due[round][player]);
            }
            Games.rest(x, 3);
        }
    }

    private static void promise17_2Below(Check c) {
        HourglassTag x = Games.withPlayers(5, 0, 5, 200, 5, 4);
        int[][] due = {{0, 0, 0}, {0, 3, 3}, {0, 6, 4}, {0, 9, 4}};
        for (int round = 0; round < due.length; round++) {
            for (int player = 0; player <= 2; player++) {
                c.same("below in round " + round, x.playerOf(player, 2), due[round][player]);
            }
            Games.rest(x, 3);
        }
    }

    private static void promise17_3IsIt(Check c) {
        HourglassTag x = Games.withPlayers(5, 9, 5, 9, 5, 9, 5, 9);
        int it = 0;
        for (int next : new int[] {3, 2, 1, 0}) {
            for (int player = 0; player < 4; player++) {
                c.same("player " + player, x.playerOf(player, 3), player == it ? 1 : 0);
            }
            for (int others = 0; others < 3 && x.count(1) != it; others++) {
                x.rest();
            }
            x.tag(next);
            it = next;
        }
        c.same("0 is it again", x.playerOf(0, 3), 1);
        c.same("3 is not", x.playerOf(3, 3), 0);
    }

    private static void promise17_4Moves(Check c) {
        HourglassTag x = Games.pair(4, 20);
        c.same("waits", x.playerOf(0, 4), 1);
        x.stride(5);
        c.same("a stride", x.playerOf(0, 4), 2);
        x.stride(4);
        c.same("a refused stride is none", x.playerOf(1, 4), 1);
        x.rest();
        x.tag(1);
        c.same("a tag", x.playerOf(0, 4), 3);
        c.same("who is tagged makes none by that", x.playerOf(1, 4), 2);
        x.turnOver();
        x.turnOver();
        c.same("a turn", x.playerOf(0, 4), 4);
        c.same("a turn of the other", x.playerOf(1, 4), 3);
        x.tag(1);
        c.same("a refused tag is none", x.playerOf(1, 4), 3);
        x.set(2, 20);
        Games.run(x, "wwww");
        c.same("moves of a text", x.playerOf(0, 4), 6);
        c.same("moves of a text too", x.playerOf(1, 4), 5);
        c.same("who came late", lateComer().playerOf(2, 4), 0);
    }

    private static HourglassTag lateComer() {
        HourglassTag x = Games.pair(4, 20);
        Games.rest(x, 4);
        x.tag(1);
        x.player(4, 9);
        return x;
    }

    private static void promise17_5TagsMade(Check c) {
        HourglassTag x = Games.withPlayers(5, 9, 5, 9, 8, 9);
        for (int round = 1; round <= 3; round++) {
            x.tag(2);
            x.tag(0);
            c.same("refused tags are none", x.playerOf(0, 5), round - 1);
            x.tag(1);
            c.same("made by 0", x.playerOf(0, 5), round);
            x.tag(0);
            c.same("made by 1", x.playerOf(1, 5), round);
            x.tag(0);
            c.same("made by 2", x.playerOf(2, 5), 0);
            x.rest();
        }
        c.same("who came late", lateComer().playerOf(2, 5), 0);
    }

    private static void promise17_6TimesTagged(Check c) {
        HourglassTag x = Games.withPlayers(5, 9, 5, 9, 8, 9);
        for (int round = 1; round <= 3; round++) {
            x.tag(2);
            c.same("a refused tag is none", x.playerOf(2, 6), 0);
            x.tag(1);
            c.same("1 was tagged", x.playerOf(1, 6), round);
            c.same("0 was not yet", x.playerOf(0, 6), round - 1);
            x.tag(0);
            c.same("0 was tagged", x.playerOf(0, 6), round);
            x.rest();
        }
        c.same("who came late", lateComer().playerOf(2, 6), 0);
    }

    private static void promise17_7GrainsPaid(Check c) {
        HourglassTag x = Games.pair(4, 20);
        c.same("nothing", x.playerOf(0, 7), 0);
        x.stride(6);
        c.same("a stride", x.playerOf(0, 7), 4);
        x.turnOver();
        c.same("a turn", x.playerOf(1, 7), 1);
        x.turnOver();
        c.same("a stride and a turn", x.playerOf(0, 7), 5);
        x.stride(5);
        c.same("a turn and a stride", x.playerOf(1, 7), 3);
        x.tag(1);
        c.same("a tag is not paid", x.playerOf(0, 7), 5);
        c.same("nor by who is tagged", x.playerOf(1, 7), 3);
        x.stride(5);
        c.same("nor a refused stride", x.playerOf(1, 7), 3);
        x.rest();
        c.same("nor a wait", x.playerOf(1, 7), 3);
        c.same("all paid lies on towers, but what was gathered", x.count(8), 8);
    }

    private static void promise17_8TowersToStrideTo(Check c) {
        HourglassTag x = Games.withHeights(2, 0, 5, 0, 3, 9);
        x.player(0, 100);
        x.player(4, 10);
        x.player(9, 50);
        c.same("no sand below", x.playerOf(0, 8), 0);
        x.set(0, 7);
        Games.rest(x, 3);
        c.same("0, who is on the move", x.playerOf(0, 8), 0b0000000110);
        c.same("1, who is not", x.playerOf(1, 8), 0b0000001100);
        c.same("2, who is not", x.playerOf(2, 8), 0b0111000000);
        x.set(1, 0);
        c.same("for nothing, 9 up to 5 is too much", x.playerOf(2, 8), 0b0111000000);
        x.set(0, 2);
        Games.rest(x, 3);
        c.same("for 9", x.playerOf(2, 8), 0b0111100000);
        HourglassTag flat = Games.withPlayers(5, 0, 0, 0, 9, 0);
        flat.set(1, 0);
        c.same("all but the own one", flat.playerOf(0, 8), 0b1111011111);
        c.same("all but the first", flat.playerOf(1, 8), 0b1111111110);
        c.same("all but the last", flat.playerOf(2, 8), 0b0111111111);
    }

    private static void promise17_returnsThatProperty(Check c) {
        HourglassTag x = Games.pair(4, 20);
        x.tag(1);
        x.tag(0);
        x.tag(1);
        x.rest();
        x.stride(9);
        int[] due = {9, 107, 8, 0, 4, 2, 1, 10};
        for (int what = 0; what <= 7; what++) {
            c.same("property " + what, x.playerOf(0, what), due[what]);
        }
        c.same("property 8", x.playerOf(0, 8), 0b0111100000);
    }

    private static void promise17_throwsIfNoSuchPlayer(Check c) {
        c.throwsOn("without players", Games.INDEX, Games::empty, x -> x.playerOf(0, 0));
        for (int w = 0; w <= 8; w++) {
            int what = w;
            c.throwsOutside("of 1", Games.INDEX, () -> Games.withPlayers(4, 9), 0, 0, (x, i) -> x.playerOf(i, what));
            c.throwsOutside("of 3", Games.INDEX, Games::busy, 0, 2, (x, i) -> x.playerOf(i, what));
            c.throwsOutside("of 4", Games.INDEX, Games::full, 0, 3, (x, i) -> x.playerOf(i, what));
        }
    }

    private static void count(Sentences all) {
        String p = "Promise 18";
        String call = "public int count(";
        all.test(p, "Returns a number.", LookSentences::promise18_returnsANumber)
            .broken(call, "return number(what);", "return number(0);");
        all.test(p, "- `what`: 0: players;", LookSentences::promise18_0Players)
            .broken("private int number(", "return game.players;", "return MOST_PLAYERS;")
            .broken("private int number(", "return game.players;", "return Math.max(1, game.players);");
        all.test(p, "1: the player on the move, NONE without players;", LookSentences::promise18_1OnTheMove)
            .broken("return game.players > 0 ? game.onMove : NONE;", "return game.onMove;")
            .broken("return game.players > 0 ? game.onMove : NONE;", "return game.players > 1 ? game.onMove : NONE;")
            .broken("return game.players > 0 ? game.onMove : NONE;", "return game.players > 0 ? game.it : NONE;");
        all.test(p, "2: the player who is it, NONE without players;", LookSentences::promise18_2It)
            .broken("return game.players > 0 ? game.it : NONE;", "return game.it;")
            .broken("return game.players > 0 ? game.it : NONE;", "return game.players > 1 ? game.it : NONE;")
            .broken("return game.players > 0 ? game.it : NONE;", "return game.players > 0 ? game.onMove : NONE;");
        all.test(p, "3: moves so far (refused ones are none);", LookSentences::promise18_3Moves)
            .broken("refused++;", "refused++; moves++;")
            .broken("moves++;\n            onMove", "moves++;", TO_LEAVE_NONE);
        all.test(p, "4: what was refused so far (as a move of a text, too);", LookSentences::promise18_4Refused)
            .broken("refused++;", TO_LEAVE_NONE)
            .broken("refused++;", "refused++; brought++;")
            .broken("public int run(", "text.empty();", "text.empty(); game.refused = past.ring[(past.oldest "
                + "+ past.held - 1) % 6].refused;");
        all.test(p, "5: tags so far;", LookSentences::promise18_5Tags)
            .broken("            tags++;", "tags++;", "tags = 1;")
            .broken("            tags++;", "tags++;", "tags += half;")
            .broken("private int number(", "return game.tags;", "return game.tags + game.refused;");
        all.test(p, "10: saved states", LookSentences::promise18_10SavedStates)
            .broken("private int number(", "return past.held;", "return Math.min(5, past.held);")
            .broken("private int number(", "return past.held;", "return past.oldest + past.held;");
        all.test(p, "Throws `IllegalArgumentException` if what is not 0 to 10", c -> {
            c.throwsOutside("count", Games.ARGUMENT, Games::busy, 0, 10, HourglassTag::count);
            c.throwsOutside("count of nothing", Games.ARGUMENT, Games::empty, 0, 10, HourglassTag::count);
        })
            .broken("COUNTS = 11", "COUNTS = 12")
            .broken(call, "what < 0 ||", "what < -1 ||")
            .broken(call, "if (what < 0 || what >= COUNTS) {", "if (what >= COUNTS) {");
    }

    private static void promise18_returnsANumber(Check c) {
        HourglassTag x = Games.busy();
        int[] due = {3, 0, 1, 6, 1, 1, 150, 148, 2, 150, 6};
        for (int what = 0; what <= 10; what++) {
            c.same("count " + what, x.count(what), due[what]);
        }
    }

    private static void promise18_0Players(Check c) {
        HourglassTag x = new HourglassTag();
        for (int players = 0; players <= 4; players++) {
            c.same("players", x.count(0), players);
            if (players < 4) {
                x.player(5, 1);
            }
        }
        x.undo();
        c.same("behind undo", x.count(0), 3);
    }

    private static void promise18_1OnTheMove(Check c) {
        HourglassTag x = new HourglassTag();
        c.same("without players", x.count(1), -1);
        x.player(5, 9);
        c.same("with one", x.count(1), 0);
        x.undo();
        c.same("without players again", x.count(1), -1);
        HourglassTag three = Games.withPlayers(5, 9, 5, 9, 5, 9);
        for (int move = 0; move < 9; move++) {
            c.same("on the move", three.count(1), move % 3);
            three.rest();
        }
    }

    private static void promise18_2It(Check c) {
        HourglassTag x = new HourglassTag();
        c.same("without players", x.count(2), -1);
        x.player(5, 9);
        c.same("with one", x.count(2), 0);
        x.undo();
        c.same("without players again", x.count(2), -1);
        HourglassTag two = Games.withPlayers(5, 9, 5, 9);
        two.tag(1);
        c.same("1 was tagged", two.count(2), 1);
        two.rest();
        c.same("1 is it still", two.count(2), 1);
    }

    private static void promise18_3Moves(Check c) {
        HourglassTag x = Games.pair(4, 20);
        c.same("2 waits", x.count(3), 2);
        x.stride(4);
        c.same("a refused one is none", x.count(3), 2);
        x.stride(5);
        c.same("a stride", x.count(3), 3);
        x.turnOver();
        c.same("a turn", x.count(3), 4);
        x.tag(1);
        c.same("a tag", x.count(3), 5);
        c.same("of a text", Games.run(x, "wws4"), 2);
        c.same("too", x.count(3), 7);
        x.undo();
        c.same("behind undo", x.count(3), 5);
        c.same("at first", new HourglassTag().count(3), 0);
    }

    private static void promise18_4Refused(Check c) {
        HourglassTag x = Games.withPlayers(4, 9, 4, 9, 9, 9);
        c.same("nothing", x.count(4), 0);
        x.rest();
        c.same("a wait is not refused", x.count(4), 0);
        refusedChangesOnlyThat(c, "1", x, 1, () -> x.stride(4));
        x.height(7, 1);
        refusedChangesOnlyThat(c, "2", x, 2, () -> x.stride(9));
        refusedChangesOnlyThat(c, "3", x, 3, () -> x.stride(5));
        refusedChangesOnlyThat(c, "4", x, 4, x::turnOver);
        refusedChangesOnlyThat(c, "5", x, 5, () -> x.tag(0));
        x.rest();
        x.rest();
        refusedChangesOnlyThat(c, "6", x, 6, () -> x.tag(0));
        refusedChangesOnlyThat(c, "2 of a tag", x, 2, () -> x.tag(2));
        x.height(7, 0);
        refusedChangesOnlyThat(c, "7", x, 7, () -> x.tag(2));
        c.same("8 refused", x.count(4), 8);
        c.same("of a text", Games.run(x, "s4w"), 0);
        c.same("a move of a text", x.count(4), 9);
        c.same("of a text, one", Games.run(x, "wt0"), 1);
        c.same("a later move of a text", x.count(4), 10);
        c.same("of a text, no such player", Games.run(x, "t3"), 0);
        c.same("is not refused", x.count(4), 10);
        x.undo();
        x.undo();
        c.same("behind undo", x.count(4), 9);
    }

    /** What a refused move leaves behind: all but the number of what was refused, and the saved states. */
    private static void refusedChangesOnlyThat(Check c, String what, HourglassTag x, int reason,
            IntSupplier move) {
        String before = Games.looks(x);
        int refused = x.count(4);
        c.same("refused for " + what, move.getAsInt(), reason);
        c.same("refused so far", x.count(4), refused + 1);
        String behind = Games.looks(x);
        x.undo();
        c.same("undone", Games.looks(x), before);
        move.getAsInt();
        c.same("the same again", Games.looks(x), behind);
        c.same("nothing but what was refused", withoutRefused(behind), withoutRefused(before));
    }

    private static String withoutRefused(String looks) {
        String[] told = looks.split(" ");
        told[4] = "";
        return String.join(" ", told);
    }

    private static void promise18_5Tags(Check c) {
        HourglassTag x = Games.withPlayers(5, 9, 5, 9);
        c.same("none", x.count(5), 0);
        for (int tags = 1; tags <= 6; tags++) {
            x.tag(tags % 2 == 1 ? 0 : 1);
            c.same("a refused one is none", x.count(5), tags - 1);
            x.tag(tags % 2 == 1 ? 1 : 0);
            c.same("tags", x.count(5), tags);
        }
        c.same("made by both", x.playerOf(0, 5) + x.playerOf(1, 5), 6);
        c.same("of a text", Games.run(x, "t1t0"), 2);
        c.same("too", x.count(5), 8);
        x.undo();
        c.same("behind undo", x.count(5), 6);
    }

    private static void promise18_10SavedStates(Check c) {
        HourglassTag x = new HourglassTag();
        for (int calls = 0; calls <= 20; calls++) {
            c.same("saved", x.count(10), Math.min(calls, 6));
            x.height(5, calls % 10);
        }
        for (int left = 5; left >= 0; left--) {
            x.undo();
            c.same("left", x.count(10), left);
        }
        x.keep(0);
        c.same("not of what is not undoable", x.count(10), 0);
    }

    private static void countOfSand(Sentences all) {
        String p = "Promise 18";
        all.test(p, "6: all sand;", LookSentences::promise18_6AllSand)
            .broken("return game.sandInGlasses() + game.sandOnTowers();", "return game.sandInGlasses();")
            .broken("return game.sandInGlasses() + game.sandOnTowers();", "return game.brought + game.lying[0];")
            .broken("above[onMove] += half;", "above[onMove] += half + 1;")
            .broken("lying[tower] = 0;", TO_LEAVE_NONE);
        all.test(p, "7: sand in glasses;", LookSentences::promise18_7SandInGlasses)
            .broken("int sandInGlasses(", "sum += above[player];", "sum += 0;")
            .broken("int sandInGlasses(", "player < players;", "player < players - 1;")
            .broken("int sandInGlasses(", "int sum = sandBelow();", "int sum = 0;");
        all.test(p, "8: sand on towers;", LookSentences::promise18_8SandOnTowers)
            .broken("int sandOnTowers(", "tower < TOWERS;", "tower < TOWERS - 1;")
            .broken("int sandOnTowers(", "int tower = 0;", "int tower = 1;")
            .broken("int sandOnTowers(", "sum += lying[tower];", "sum = lying[tower];");
        all.test(p, "9: sand that players brought so far;", LookSentences::promise18_9SandBrought)
            .broken("brought += sand;", "brought = sand;")
            .broken("brought += sand;", TO_LEAVE_NONE)
            .broken("private int number(", "return game.brought;", "return game.sandInGlasses();");
        all.test(p, "Returns the number.", LookSentences::promise18_returnsThatNumber)
            .broken("private int number(", "case 6:", "case -6:")
            .broken("private int number(", "case 9:", "case -9:");
    }

    /** A game in which sand comes to lie on the first and the last tower, and is gathered again. */
    private static HourglassTag sandOnBothEnds() {
        HourglassTag x = Games.withPlayers(0, 100, 9, 100);
        x.set(0, 20);
        Games.rest(x, 2);
        x.stride(2);
        x.stride(6);
        return x;
    }

    private static void promise18_6AllSand(Check c) {
        c.same("none", new HourglassTag().count(6), 0);
        c.same("players without sand", Games.withPlayers(4, 0, 4, 0).count(6), 0);
        HourglassTag x = sandOnBothEnds();
        c.same("all", x.count(6), 200);
        for (int move = 0; move < 30; move++) {
            int kind = move % 5;
            int reason = kind == 0 ? x.stride((move * 7 + 3) % 10) : kind == 1 ? x.turnOver() : kind == 2 ? x.tag(1)
                : kind == 3 ? x.tag(0) : x.rest();
            c.same("stays the same behind " + reason, x.count(6), 200);
            c.same("in glasses and on towers", x.count(7) + x.count(8), 200);
        }
        HourglassTag tagged = Games.pair(4, 20);
        tagged.tag(1);
        c.same("a tag leaves it", tagged.count(6), 240);
        x.player(4, 200);
        c.same("who comes brings more", x.count(6), 400);
    }

    private static void promise18_7SandInGlasses(Check c) {
        c.same("none", new HourglassTag().count(7), 0);
        c.same("players without sand", Games.withPlayers(4, 0, 4, 0).count(7), 0);
        c.same("the most", Games.withPlayers(4, 200, 4, 200, 4, 200, 4, 200).count(7), 800);
        HourglassTag x = sandOnBothEnds();
        c.same("without what lies on towers", x.count(7), 190);
        x.rest();
        c.same("above and below", x.count(7), 190);
        x.stride(9);
        c.same("with what was gathered, but what was paid", x.count(7), 190);
    }

    private static void promise18_8SandOnTowers(Check c) {
        c.same("none", new HourglassTag().count(8), 0);
        HourglassTag x = sandOnBothEnds();
        c.same("4 on the first", x.tower(0, 1), 4);
        c.same("6 on the last", x.tower(9, 1), 6);
        c.same("10 on both", x.count(8), 10);
        x.turnOver();
        c.same("and 1 between", x.count(8), 11);
        x.stride(9);
        c.same("6 gathered, 6 paid", x.count(8), 11);
    }

    private static void promise18_9SandBrought(Check c) {
        HourglassTag x = new HourglassTag();
        c.same("nothing", x.count(9), 0);
        int brought = 0;
        for (int sand : new int[] {200, 0, 7, 200}) {
            x.player(4, sand);
            brought += sand;
            c.same("so far", x.count(9), brought);
        }
        x.undo();
        c.same("behind undo", x.count(9), 207);
        HourglassTag y = sandOnBothEnds();
        c.same("moves bring nothing", y.count(9), 200);
    }

    private static void promise18_returnsThatNumber(Check c) {
        HourglassTag x = sandOnBothEnds();
        x.stride(2);
        x.tag(0);
        int[] due = {2, 0, 0, 4, 2, 0, 200, 190, 10, 200, 6};
        for (int what = 0; what <= 10; what++) {
            c.same("count " + what, x.count(what), due[what]);
        }
    }

    private static void setting(Sentences all) {
        String p = "Promise 19";
        String call = "public int setting(";
        all.test(p, "Returns a setting.", LookSentences::promise19_returnsASetting)
            .broken(call, "return game.settings[setting];", "return game.settings[0];")
            .broken(call, "return game.settings[setting];", "return SETTING_AT_FIRST[setting];");
        all.test(p, "- `setting`: 0 to 3", LookSentences::promise19_settingIs0To3)
            .broken(call, "if (!isSetting(setting)) {", "if (setting < 1 || setting > 3) {")
            .broken(call, "if (!isSetting(setting)) {", "if (setting < 0 || setting > 2) {");
        all.test(p, "Returns its value.", LookSentences::promise19_returnsItsValue)
            .broken(call, "return game.settings[setting];", "return Math.min(19, game.settings[setting]);")
            .broken(call, "return game.settings[setting];", "return Math.max(1, game.settings[setting]);");
        all.test(p, "Throws `IndexOutOfBoundsException` if there is no such setting",
                c -> c.throwsOutside("setting", Games.INDEX, Games::busy, 0, 3, HourglassTag::setting))
            .broken(call, "if (!isSetting(setting)) {", "if (setting < 0) {")
            .broken(call, "if (!isSetting(setting)) {", "if (setting >= SETTINGS) {");
    }

    private static void promise19_returnsASetting(Check c) {
        HourglassTag x = new HourglassTag();
        int[] due = {3, 2, 1, 1};
        for (int setting = 0; setting <= 3; setting++) {
            c.same("setting " + setting, x.setting(setting), due[setting]);
            x.set(setting, 5 + setting);
        }
        for (int setting = 0; setting <= 3; setting++) {
            c.same("setting " + setting, x.setting(setting), 5 + setting);
        }
    }

    private static void promise19_settingIs0To3(Check c) {
        c.same("the first", new HourglassTag().setting(0), 3);
        c.same("the last", new HourglassTag().setting(3), 1);
    }

    private static void promise19_returnsItsValue(Check c) {
        int[] least = {1, 0, 0, 0};
        int[] most = {20, 9, 20, 9};
        for (int setting = 0; setting <= 3; setting++) {
            HourglassTag x = new HourglassTag();
            x.set(setting, most[setting]);
            c.same("the most", x.setting(setting), most[setting]);
            x.set(setting, least[setting]);
            c.same("the least", x.setting(setting), least[setting]);
        }
    }
}
