/** The tests of the sentences of the document's terms, from "What it is" to "Moves", and those of RuleSentences. */
final class TermSentences {
    private static final String TO_LEAVE_NONE = "";

    private TermSentences() {
    }

    static void addTo(Sentences all) {
        use(all);
        towers(all);
        players(all);
        strides(all);
        turnsAndTags(all);
        behindMoves(all);
        RuleSentences.addTo(all);
    }

    private static void use(Sentences all) {
        all.test("What it is",
            "An object is used for at most 512 calls after it has been made; what later calls answer is free.",
            TermSentences::use_512Calls)
            .broken("MOST_MOVES = 9999", "MOST_MOVES = 509");
        all.test("Terms", "All numbers are integers, but for a share;", TermSentences::terms_onlyTheShareIsNoInteger)
            .broken("(double) sandBelow() / (double) inGlasses", "(double) (sandBelow() / inGlasses)");
        all.test("Terms", "divisions are rounded down.", TermSentences::terms_divisionsAreRoundedDown)
            .broken("int half = below[other] / 2", "int half = (below[other] + 1) / 2");
        all.plain("Terms", "Sand is in grains.");
    }

    private static void use_512Calls(Check c) {
        HourglassTag x = Games.withPlayers(0, 200);
        for (int i = 1; i <= 510; i++) {
            c.same("rest " + i, x.rest(), i <= 66 ? 3 : i == 67 ? 2 : 0);
        }
        c.same("the 512th call", x.count(3), 510);
    }

    private static void terms_onlyTheShareIsNoInteger(Check c) {
        HourglassTag x = Games.withPlayers(0, 2);
        x.set(0, 1);
        x.rest();
        c.same("one of two below", x.belowShare(), 0.5);
    }

    private static void terms_divisionsAreRoundedDown(Check c) {
        int[] halves = {0, 0, 1, 1, 2, 2, 3, 3, 4, 4, 5, 5, 6, 6, 7, 7, 8, 8, 9, 9, 10};
        for (int below = 1; below <= 20; below++) {
            HourglassTag x = Games.pair(5, below);
            x.tag(1);
            c.same("left of " + below, x.playerOf(1, 2), below - halves[below]);
            c.same("taken of " + below + ", and 3 ran", x.playerOf(0, 1), 100 + halves[below] - 3);
        }
    }

    private static void towers(Sentences all) {
        all.test("Towers", "There are 10 towers in a row, numbered from 0,", TermSentences::towers_10NumberedFrom0)
            .broken("TOWERS = 10", "TOWERS = 9")
            .broken("TOWERS = 10", "TOWERS = 11")
            .broken("return tower >= 0 && tower < TOWERS", "return tower >= 1 && tower < TOWERS");
        all.test("Towers", "each with a height, 0 to 9, at first 0,", TermSentences::towers_height0To9AtFirst0)
            .broken("HIGHEST = 9", "HIGHEST = 8")
            .broken("HIGHEST = 9", "HIGHEST = 10")
            .broken("if (height < 0 ||", "if (height < 1 ||")
            .broken("settings[i] = SETTING_AT_FIRST[i];", "settings[i] = SETTING_AT_FIRST[i]; heights[i] = 1;");
        all.test("Towers", "and sand that lies on it, at first 0.", TermSentences::towers_sandAtFirst0)
            .broken("settings[i] = SETTING_AT_FIRST[i];", "settings[i] = SETTING_AT_FIRST[i]; lying[9] = 1;");
        all.test("Towers",
            "A tower sees another one if no tower between them is higher than the higher one of both.",
            TermSentences::towers_seesWhatNoHigherOneHides)
            .broken("if (heights[between] > higher)", "if (heights[between] >= higher)")
            .broken("Math.max(heights[one], heights[other])", "Math.min(heights[one], heights[other])")
            .broken("between < last;", "between < last - 1;")
            .broken("Math.min(one, other) + 1;", "Math.min(one, other) + 2;");
        all.test("Towers", "(It sees itself and its neighbours always.)", TermSentences::towers_seesItselfAndNeighbours)
            .broken("boolean sees(", "int higher", "if (one == other) { return false; } int higher")
            .broken("boolean sees(", "int higher",
                "if (Math.abs(one - other) == 1 && heights[one] < heights[other]) { return false; } int higher");
    }

    private static void towers_10NumberedFrom0(Check c) {
        for (int tower = 0; tower <= 9; tower++) {
            HourglassTag x = new HourglassTag();
            x.height(tower, 5);
            for (int other = 0; other <= 9; other++) {
                c.same("height of " + other, x.tower(other, 0), other == tower ? 5 : 0);
            }
        }
        c.throwsOutside("tower", Games.INDEX, Games::empty, 0, 9, (x, tower) -> x.tower(tower, 0));
        c.same("9 towers apart in a row", new HourglassTag().price(0, 9, 0), 18);
    }

    private static void towers_height0To9AtFirst0(Check c) {
        for (int t = 0; t <= 9; t++) {
            int tower = t;
            HourglassTag x = new HourglassTag();
            c.same("at first", x.tower(tower, 0), 0);
            for (int height = 9; height >= 0; height--) {
                x.height(tower, height);
                c.same("height", x.tower(tower, 0), height);
            }
            c.throwsOutside("height", Games.ARGUMENT, Games::empty, 0, 9, (y, height) -> y.height(tower, height));
        }
    }

    private static void towers_sandAtFirst0(Check c) {
        for (int tower = 0; tower <= 9; tower++) {
            c.same("sand", new HourglassTag().tower(tower, 1), 0);
        }
    }

    private static void towers_seesWhatNoHigherOneHides(Check c) {
        for (int between = 1; between <= 8; between++) {
            for (int height = 0; height <= 9; height++) {
                HourglassTag x = Games.withHeights(3, 0, 0, 0, 0, 0, 0, 0, 0, 6);
                x.height(between, height);
                int due = height <= 6 ? 1 : 0;
                String what = "tower " + between + " of height " + height + " between ";
                c.same(what + "0 and 9", x.tower(0, 3) >> 9 & 1, due);
                c.same(what + "9 and 0", x.tower(9, 3) & 1, due);
            }
        }
        HourglassTag x = Games.withHeights(0, 0, 9);
        c.same("a tower that is not between hides nothing", x.tower(0, 3), 0b111);
        c.same("behind it", x.tower(3, 3), 0b1111111100);
        c.same("the higher one sees all", x.tower(2, 3), 1023);
    }

    private static void towers_seesItselfAndNeighbours(Check c) {
        int[][] rows = {
            {0, 0, 0, 0, 0, 0, 0, 0, 0, 0}, {9, 9, 9, 9, 9, 9, 9, 9, 9, 9}, {9, 0, 9, 0, 9, 0, 9, 0, 9, 0},
            {0, 9, 0, 9, 0, 9, 0, 9, 0, 9}, {0, 1, 2, 3, 4, 5, 6, 7, 8, 9}, {9, 8, 7, 6, 5, 4, 3, 2, 1, 0},
        };
        for (int[] row : rows) {
            HourglassTag x = Games.withHeights(row);
            for (int tower = 0; tower <= 9; tower++) {
                int near = (1 << tower | 1 << tower + 1 | 1 << tower >> 1) & 1023;
                c.same("itself and neighbours of " + tower, x.tower(tower, 3) & near, near);
            }
        }
    }

    private static void players(Sentences all) {
        all.test("Players", "There are at most 4 players,", TermSentences::players_atMost4)
            .broken("MOST_PLAYERS = 4", "MOST_PLAYERS = 3")
            .broken("MOST_PLAYERS = 4", "MOST_PLAYERS = 5");
        all.test("Players", "numbered from 0 in the order in which they came;", TermSentences::players_numberedFrom0)
            .broken("int number = players;", "int number = MOST_PLAYERS - 1 - players;")
            .broken("return game.addPlayer(tower, sand);", "return game.addPlayer(tower, sand) + 1;");
        all.test("Players",
            "each stands on a tower, and has an hourglass with some sand above and some below.",
            TermSentences::players_standOnATowerWithAGlass)
            .broken("place[number] = tower;", "place[number] = 9 - tower;")
            .broken("above[number] = sand;", "below[number] = sand;")
            .broken("below[onMove] += grains;", TO_LEAVE_NONE);
        all.test("Players", "One of them is it: at first the player 0.", TermSentences::players_itIsAtFirstThePlayer0)
            .broken("int it = 0;", "int it = 1;")
            .broken("above[number] = sand;", "above[number] = sand; it = number;")
            .broken("return game.it == player ? 1 : 0", "return game.onMove == player ? 1 : 0");
        all.test("Players",
            "The players are on the move by turns, in their order, at first the player 0.",
            TermSentences::players_onTheMoveByTurns)
            .broken("onMove + 1 < players ? onMove + 1 : 0", "onMove + 1 <= players ? onMove + 1 : 0")
            .broken("onMove + 1 < players ? onMove + 1 : 0", "onMove + 2 < players ? onMove + 1 : 0")
            .broken("onMove + 1 < players ? onMove + 1 : 0", "onMove > 0 ? onMove - 1 : players - 1")
            .broken("int onMove = 0;", "int onMove = 1;");
    }

    private static void players_atMost4(Check c) {
        HourglassTag x = new HourglassTag();
        for (int players = 1; players <= 4; players++) {
            x.player(5, 10);
            c.same("players", x.count(0), players);
        }
        c.throwsOn("a fifth player", Games.STATE, Games::full, y -> y.player(5, 10));
    }

    private static void players_numberedFrom0(Check c) {
        HourglassTag x = new HourglassTag();
        int[] towers = {9, 0, 5, 5};
        for (int number = 0; number < 4; number++) {
            c.same("number", x.player(towers[number], 10 + number), number);
        }
        for (int number = 0; number < 4; number++) {
            c.same("player " + number, Games.glass(x, number), towers[number] + "/" + (10 + number) + "/0");
        }
    }

    private static void players_standOnATowerWithAGlass(Check c) {
        HourglassTag x = Games.withPlayers(0, 0, 9, 200, 4, 2, 4, 3);
        Games.rest(x, 4);
        c.same("no sand at all", Games.glass(x, 0), "0/0/0");
        c.same("some above and some below", Games.glass(x, 1), "9/197/3");
        c.same("all below", Games.glass(x, 2), "4/0/2");
        c.same("all below too", Games.glass(x, 3), "4/0/3");
    }

    private static void players_itIsAtFirstThePlayer0(Check c) {
        HourglassTag x = new HourglassTag();
        for (int players = 1; players <= 4; players++) {
            x.player(players, 20);
            x.rest();
            c.same("it", x.count(2), 0);
            for (int player = 0; player < players; player++) {
                c.same("player " + player + " is it", x.playerOf(player, 3), player == 0 ? 1 : 0);
            }
        }
    }

    private static void players_onTheMoveByTurns(Check c) {
        HourglassTag x = new HourglassTag();
        for (int players = 1; players <= 4; players++) {
            x.player(5, 200);
            for (int move = 0; move < 3 * players; move++) {
                c.same("on the move, of " + players, x.count(1), move % players);
                x.rest();
            }
            c.same("behind the last one", x.count(1), 0);
        }
        HourglassTag late = Games.withPlayers(5, 200, 5, 200);
        late.rest();
        late.player(5, 200);
        c.same("on the move stays who it was", late.count(1), 1);
        late.rest();
        c.same("then who came", late.count(1), 2);
        late.rest();
        c.same("then the player 0", late.count(1), 0);
    }

    private static void strides(Sentences all) {
        all.test("Moves", "A move is one of these; it is refused for the first reason that is so:",
            TermSentences::moves_refusedForTheFirstReason)
            .broken("int refusalOfStride(", "if (!sees(from, tower)) {",
                "if (!sees(from, tower) && priceOfStride(from, tower) <= below[player]) {")
            .broken("if (player != it) {", "if (player != it && player != other) {")
            .broken("if (player != it) {", "if (player != it && sees(place[player], place[other])) {")
            .broken("if (player != it) {",
                "if (player != it && Math.abs(place[player] - place[other]) <= settings[REACH]) {")
            .broken("if (!sees(place[player], place[other])) {", "if (!sees(place[player], place[other]) "
                + "&& Math.abs(place[player] - place[other]) <= settings[REACH]) {");
        all.test("Moves", "- To wait: never refused.", TermSentences::moves_waitIsNeverRefused)
            .broken("public int rest()", "return game.endMove();",
                "return game.above[game.onMove] > 0 ? game.endMove() : game.refuse(1);")
            .broken("case 'w':\n                game.endMove();\n                return true;",
                "case 'w':\n                return game.endMove() > 0;");
        all.test("Moves", "- To stride to a tower: 1: the player stands there;", TermSentences::moves_1StandsThere)
            .broken("STANDS_THERE = 1", "STANDS_THERE = 3")
            .broken("if (from == tower) {", "if (from == tower && from > 0) {")
            .broken("if (from == tower) {", "if (from == tower && from < 9) {");
        all.test("Moves", "2: the tower is not seen;", TermSentences::moves_2TowerIsNotSeen)
            .broken("NOT_SEEN = 2", "NOT_SEEN = 3")
            .broken("int refusalOfStride(", "if (!sees(from, tower)) {", "if (!sees(from, tower) && from < tower) {");
        all.test("Moves", "3: the price is more than the sand below.", TermSentences::moves_3PriceIsMoreThanBelow)
            .broken("STRIDE_TOO_DEAR = 3", "STRIDE_TOO_DEAR = 4")
            .broken("priceOfStride(from, tower) > below[player]", "priceOfStride(from, tower) >= below[player]")
            .broken("priceOfStride(from, tower) > below[player]", "priceOfStride(from, tower) > below[player] + 1")
            .broken("priceOfStride(from, tower) > below[player]", "priceOfStride(from, tower) > above[player]");
        all.test("Moves", "The price is setting 1 times how many towers they are apart,",
            TermSentences::moves_priceOfTowersApart)
            .broken("settings[APART] * Math.abs(to - from)", "settings[APART] * (to - from)")
            .broken("settings[APART] * Math.abs(to - from)", "settings[APART] * Math.min(8, Math.abs(to - from))")
            .broken("settings[APART] * Math.abs(to - from)", "Math.max(1, settings[APART]) * Math.abs(to - from)");
        all.test("Moves", "and what the tower is higher, if it is.", TermSentences::moves_priceOfWhatIsHigher)
            .broken("Math.max(0, heights[to] - heights[from])", "Math.abs(heights[to] - heights[from])")
            .broken("Math.max(0, heights[to] - heights[from])", "(heights[to] - heights[from])")
            .broken("Math.max(0, heights[to] - heights[from])", "Math.max(0, heights[to] - heights[from] - 1)")
            .broken("Math.max(0, heights[to] - heights[from])", "Math.max(1, heights[to] - heights[from])");
        all.test("Moves", "The price is taken from the sand below, and lies then on the tower that was left.",
            TermSentences::moves_priceLiesOnTheTowerLeft)
            .broken("below[onMove] -= grains;", "above[onMove] -= grains;")
            .broken("lying[place[onMove]] += grains;", "lying[place[onMove]] = grains;")
            .broken("lying[place[onMove]] += grains;", "lying[0] += grains;")
            .broken("int moveByStride(", "pay(", "int price = priceOfStride(place[onMove], tower); "
                + "lying[place[onMove]] -= price; lying[tower] += price; pay(");
        all.test("Moves", "All sand that lies on the tower where the player comes is put above.",
            TermSentences::moves_sandOnTheTowerIsPutAbove)
            .broken("above[onMove] += lying[tower];", "below[onMove] += lying[tower];")
            .broken("above[onMove] += lying[tower];", "above[onMove] += Math.min(2, lying[tower]);")
            .broken("lying[tower] = 0;", TO_LEAVE_NONE);
    }

    private static void moves_refusedForTheFirstReason(Check c) {
        HourglassTag x = Games.withPlayers(0, 9);
        c.same("1, without sand", x.stride(0), 1);
        x.height(1, 5);
        c.same("2 before 3", x.stride(2), 2);
        c.same("3 alone", x.stride(1), 3);
        c.same("whyNot tells 2 before 3", x.whyNot(0, 2), 2);
        HourglassTag near = Games.withPlayers(0, 9, 0, 9);
        near.rest();
        c.same("5 before 6", near.tag(1), 5);
        HourglassTag far = Games.withPlayers(0, 9, 2, 9);
        c.same("7 alone", far.tag(1), 7);
        far.height(1, 5);
        c.same("2 before 7", far.tag(1), 2);
        far.set(3, 9);
        c.same("2 alone", far.tag(1), 2);
        far.rest();
        c.same("5 before 2", far.tag(0), 5);
        far.height(1, 0);
        c.same("5 alone", far.tag(0), 5);
        far.set(3, 1);
        c.same("5 before 7", far.tag(0), 5);
        far.height(1, 5);
        c.same("5 before 2 and 7", far.tag(0), 5);
    }

    private static void moves_waitIsNeverRefused(Check c) {
        HourglassTag x = Games.withPlayers(4, 0, 4, 2);
        c.same("no sand", x.rest(), 0);
        c.same("some sand", x.rest(), 2);
        c.same("no sand again", x.rest(), 0);
        c.same("all below", x.rest(), 0);
        c.same("as text", Games.run(x, "wwww"), 4);
        c.same("moves", x.count(3), 8);
        c.same("refused", x.count(4), 0);
    }

    private static void moves_1StandsThere(Check c) {
        for (int tower = 0; tower <= 9; tower++) {
            HourglassTag x = Games.alone(tower, 20);
            c.same("with sand on " + tower, x.stride(tower), 1);
            x.set(1, 0);
            c.same("for nothing on " + tower, x.stride(tower), 1);
            c.same("without sand on " + tower, Games.withPlayers(tower, 0).stride(tower), 1);
        }
    }

    private static void moves_2TowerIsNotSeen(Check c) {
        HourglassTag x = Games.alone(5, 60);
        x.height(2, 4);
        x.height(7, 3);
        int[] due = {2, 2, 0, 0, 0, 1, 0, 0, 2, 2};
        for (int tower = 0; tower <= 9; tower++) {
            c.same("to " + tower, x.stride(tower), due[tower]);
            if (due[tower] == 0) {
                x.undo();
            }
        }
        x.height(9, 3);
        c.same("as high as what is between", x.stride(9), 0);
    }

    private static void moves_3PriceIsMoreThanBelow(Check c) {
        for (int below = 0; below <= 3; below++) {
            c.same("2 of " + below, Games.alone(4, below).stride(5), below < 2 ? 3 : 0);
        }
        for (int below = 89; below <= 91; below++) {
            HourglassTag x = Games.alone(0, below);
            x.height(9, 9);
            x.set(1, 9);
            c.same("90 of " + below, x.stride(9), below < 90 ? 3 : 0);
        }
        HourglassTag poor = Games.withPlayers(4, 0);
        poor.set(1, 0);
        c.same("0 of 0", poor.stride(5), 0);
    }

    private static void moves_priceOfTowersApart(Check c) {
        for (int each : new int[] {0, 1, 2, 9}) {
            for (int apart = 1; apart <= 9; apart++) {
                HourglassTag up = Games.alone(0, 81);
                up.set(1, each);
                c.same("stride up the row", up.stride(apart), 0);
                c.same("paid for " + apart + " times " + each, up.playerOf(0, 7), apart * each);
                HourglassTag down = Games.alone(9, 81);
                down.set(1, each);
                c.same("stride down the row", down.stride(9 - apart), 0);
                c.same("paid for " + apart + " times " + each, down.playerOf(0, 7), apart * each);
            }
        }
    }

    private static void moves_priceOfWhatIsHigher(Check c) {
        for (int from = 0; from <= 9; from++) {
            for (int to = 0; to <= 9; to++) {
                HourglassTag x = Games.alone(4, 20);
                x.height(4, from);
                x.height(3, to);
                x.stride(3);
                c.same("paid from " + from + " to " + to, x.playerOf(0, 7), to > from ? 2 + to - from : 2);
            }
        }
    }

    private static void moves_priceLiesOnTheTowerLeft(Check c) {
        HourglassTag x = Games.alone(3, 10);
        x.stride(5);
        c.same("taken from below, where 3 ran", Games.glass(x, 0), "5/97/9");
        c.same("lies on the tower left", x.tower(3, 1), 4);
        c.same("nothing on the other one", x.tower(5, 1), 0);
        HourglassTag all = Games.alone(3, 4);
        all.stride(5);
        c.same("all that was below", Games.glass(all, 0), "5/97/3");
        HourglassTag free = Games.alone(3, 4);
        free.set(1, 0);
        free.stride(5);
        c.same("a price of 0", Games.glass(free, 0), "5/97/7");
        c.same("of which nothing lies", free.tower(3, 1), 0);
        HourglassTag both = Games.pair(3, 10);
        both.stride(5);
        both.stride(4);
        c.same("lies with what lay there", both.tower(3, 1), 6);
    }

    private static void moves_sandOnTheTowerIsPutAbove(Check c) {
        HourglassTag x = Games.pair(3, 20);
        x.player(6, 50);
        x.stride(5);
        c.same("no sand on the tower", Games.glass(x, 0), "5/97/19");
        x.stride(4);
        x.rest();
        c.same("6 lie on 3", x.tower(3, 1), 6);
        x.stride(3);
        c.same("all 6 are put above, then 3 run", Games.glass(x, 0), "3/100/18");
        c.same("none of them lie there", x.tower(3, 1), 0);
        x.set(1, 0);
        x.stride(3);
        c.same("they are gathered once", Games.glass(x, 1), "3/94/24");
        x.rest();
        x.stride(5);
        c.same("what oneself left is gathered too", Games.glass(x, 0), "5/101/21");
    }

    private static void turnsAndTags(Sentences all) {
        all.test("Moves", "- To turn the glass over: 4: setting 2 grains are more than the sand below.",
            TermSentences::moves_4TurnIsMoreThanBelow)
            .broken("TURN_TOO_DEAR = 4", "TURN_TOO_DEAR = 3")
            .broken("if (settings[TURNING] > below[onMove])", "if (settings[TURNING] >= below[onMove])")
            .broken("if (settings[TURNING] > below[onMove])", "if (settings[TURNING] > below[onMove] + 1)")
            .broken("if (settings[TURNING] > below[onMove])", "if (settings[TURNING] > above[onMove])");
        all.test("Moves", "These are taken from the sand below, and lie on the tower;",
            TermSentences::moves_turnIsPaidOnTheTower)
            .broken("int moveByTurn(", "pay(settings[TURNING]);", "pay(Math.min(19, settings[TURNING]));")
            .broken("int moveByTurn(", "pay(settings[TURNING]);", "pay(Math.max(1, settings[TURNING]));")
            .broken("int moveByTurn(", "pay(settings[TURNING]);", "below[onMove] -= settings[TURNING];")
            .broken("lying[place[onMove]] += grains;", "lying[place[onMove]] = grains;");
        all.test("Moves", "then what is above comes below, and what is below above.",
            TermSentences::moves_turnChangesAboveAndBelow)
            .broken("int moveByTurn(", "above[onMove] = below[onMove];", TO_LEAVE_NONE)
            .broken("int moveByTurn(", "below[onMove] = wasAbove;", TO_LEAVE_NONE)
            .broken("int moveByTurn(", "below[onMove] = wasAbove;", "below[onMove] = Math.max(1, wasAbove);");
        all.test("Moves", "- To tag another player: 5: the player is not it;", TermSentences::moves_5IsNotIt)
            .broken("NOT_IT = 5", "NOT_IT = 6")
            .broken("if (player != it) {", "if (player > it) {")
            .broken("if (player != it) {", "if (player < it) {");
        all.test("Moves", "6: the other one is the same;", TermSentences::moves_6OtherIsTheSame)
            .broken("SAME_PLAYER = 6", "SAME_PLAYER = 5")
            .broken("if (player == other) {", "if (player == other && player > 0) {")
            .broken("if (player == other) {", "if (player == other && player < 3) {");
        all.test("Moves", "2: the tower of the other one is not seen;", TermSentences::moves_2OtherIsNotSeen)
            .broken("if (!sees(place[player], place[other])) {",
                "if (!sees(place[player], place[other]) && player > other) {")
            .broken("if (!sees(place[player], place[other])) {",
                "if (!sees(place[player], place[other]) && player < other) {")
            .broken("if (!sees(place[player], place[other])) {", "if (Math.abs(place[player] - place[other]) > 1 "
                + "&& heights[Math.min(place[player], place[other]) + 1] > 0) {");
        all.test("Moves", "7: they are more than setting 3 towers apart.", TermSentences::moves_7TooFarApart)
            .broken("TOO_FAR = 7", "TOO_FAR = 2")
            .broken("Math.abs(place[player] - place[other]) > settings[REACH]",
                "Math.abs(place[player] - place[other]) >= settings[REACH]")
            .broken("Math.abs(place[player] - place[other]) > settings[REACH]",
                "Math.abs(place[player] - place[other]) > settings[REACH] + 1")
            .broken("Math.abs(place[player] - place[other]) > settings[REACH]",
                "place[player] - place[other] > settings[REACH]")
            .broken("Math.abs(place[player] - place[other]) > settings[REACH]",
                "place[other] - place[player] > settings[REACH]");
        all.test("Moves", "Half of the sand below of the other one is put above in the glass of the tagger;",
            TermSentences::moves_halfOfTheSandBelow)
            .broken("int half = below[other] / 2", "int half = above[other] / 2")
            .broken("int half = below[other] / 2", "int half = below[other]")
            .broken("int half = below[other] / 2", "int half = Math.max(1, below[other] / 2)")
            .broken("below[other] -= half;", TO_LEAVE_NONE)
            .broken("above[onMove] += half;", "below[onMove] += half;");
        all.test("Moves", "the other one is it then.", TermSentences::moves_theOtherIsItThen)
            .broken("it = other;", TO_LEAVE_NONE)
            .broken("it = other;", "it = onMove + 1 < players ? onMove + 1 : 0;");
    }

    private static void moves_4TurnIsMoreThanBelow(Check c) {
        for (int price = 0; price <= 20; price++) {
            for (int below = Math.max(0, price - 1); below <= price + 1; below++) {
                HourglassTag x = Games.alone(4, below);
                x.set(2, price);
                c.same(price + " of " + below, x.turnOver(), price > below ? 4 : 0);
            }
        }
        HourglassTag poor = Games.withPlayers(4, 0);
        c.same("1 of 0, and nothing above", poor.turnOver(), 4);
        poor.set(2, 0);
        c.same("0 of 0, and nothing above", poor.turnOver(), 0);
    }

    private static void moves_turnIsPaidOnTheTower(Check c) {
        for (int tower = 0; tower <= 9; tower++) {
            HourglassTag x = Games.alone(tower, 20);
            x.set(2, 20);
            x.turnOver();
            c.same("all below is taken", x.tower(tower, 1), 20);
            c.same("so that nothing runs", Games.glass(x, 0), tower + "/0/100");
            x.set(2, 5);
            x.turnOver();
            c.same("5 lie with the 20", x.tower(tower, 1), 25);
            c.same("95 turned over, and 3 run", Games.glass(x, 0), tower + "/92/3");
            x.set(2, 0);
            x.turnOver();
            c.same("nothing is taken", x.tower(tower, 1), 25);
        }
    }

    private static void moves_turnChangesAboveAndBelow(Check c) {
        HourglassTag x = Games.alone(4, 10);
        x.turnOver();
        c.same("100 and 9 change, and 3 run", Games.glass(x, 0), "4/6/103");
        HourglassTag y = Games.withPlayers(4, 5);
        y.set(2, 0);
        y.turnOver();
        c.same("nothing was below", Games.glass(y, 0), "4/0/5");
        y.turnOver();
        c.same("nothing was above, and 3 run", Games.glass(y, 0), "4/2/3");
        HourglassTag none = Games.withPlayers(4, 0);
        none.set(2, 0);
        none.turnOver();
        c.same("no sand", Games.glass(none, 0), "4/0/0");
    }

    private static void moves_5IsNotIt(Check c) {
        HourglassTag x = Games.withPlayers(4, 20, 4, 20, 4, 20);
        x.rest();
        c.same("1 is not it", x.tag(2), 5);
        c.same("1 is not it, and tags who is", x.tag(0), 5);
        x.rest();
        x.rest();
        c.same("0 is it", x.tag(2), 0);
        c.same("1 is not it either", x.tag(2), 5);
        x.rest();
        x.rest();
        c.same("0 is not it any more", x.tag(1), 5);
    }

    private static void moves_6OtherIsTheSame(Check c) {
        HourglassTag x = Games.withPlayers(4, 20, 4, 20, 4, 20, 4, 20);
        c.same("player 0", x.tag(0), 6);
        x.tag(3);
        Games.rest(x, 2);
        c.same("player 3", x.tag(3), 6);
        c.same("alone", Games.withPlayers(4, 20).tag(0), 6);
    }

    private static void moves_2OtherIsNotSeen(Check c) {
        HourglassTag x = Games.withHeights(0, 1, 2, 1);
        x.player(1, 20);
        x.player(3, 20);
        x.set(3, 9);
        c.same("hidden by a higher one", x.tag(1), 2);
        x.height(3, 2);
        c.same("as high as what is between", x.tag(1), 0);
        x.height(3, 1);
        c.same("hidden from the other side", x.tag(0), 2);
        x.height(2, 1);
        c.same("not hidden", x.tag(0), 0);
    }

    private static void moves_7TooFarApart(Check c) {
        for (int reach = 0; reach <= 9; reach++) {
            for (int apart = 0; apart <= 9; apart++) {
                int due = apart > reach ? 7 : 0;
                HourglassTag up = Games.withPlayers(0, 9, apart, 9);
                up.set(3, reach);
                c.same(apart + " apart with " + reach, up.tag(1), due);
                HourglassTag down = Games.withPlayers(9, 9, 9 - apart, 9);
                down.set(3, reach);
                c.same(apart + " apart the other way with " + reach, down.tag(1), due);
            }
        }
    }

    private static void moves_halfOfTheSandBelow(Check c) {
        HourglassTag none = Games.withPlayers(4, 20, 4, 20);
        none.tag(1);
        c.same("half of nothing is taken", Games.glass(none, 1), "4/20/0");
        c.same("nothing is put above, and 3 run", Games.glass(none, 0), "4/17/3");
        HourglassTag x = Games.pair(4, 20);
        x.player(4, 50);
        x.tag(1);
        c.same("10 are taken from below", Games.glass(x, 1), "4/100/10");
        c.same("10 are put above, and 3 run", Games.glass(x, 0), "4/107/23");
        c.same("who was not tagged keeps all", Games.glass(x, 2), "4/50/0");
        c.same("all sand", x.count(6), 290);
    }

    private static void moves_theOtherIsItThen(Check c) {
        HourglassTag x = Games.withPlayers(4, 20, 4, 20, 4, 20);
        x.tag(2);
        c.same("2 is it", x.count(2), 2);
        c.same("0 is not", x.playerOf(0, 3), 0);
        x.rest();
        x.tag(1);
        c.same("1 is it", x.count(2), 1);
        x.rest();
        c.same("1 is it on the move", x.tag(0), 0);
        c.same("0 is it again", x.count(2), 0);
    }

    private static void behindMoves(Sentences all) {
        all.test("Moves", "Behind each move that is not refused the sand of the player who made it runs:",
            TermSentences::moves_sandRunsBehindEach)
            .broken("int moveByStride(", "endMove();", "int kept = Math.min(settings[RUNNING], above[onMove]); "
                + "int mover = onMove; endMove(); above[mover] += kept; below[mover] -= kept;")
            .broken("int moveByTurn(", "endMove();", "int kept = Math.min(settings[RUNNING], above[onMove]); "
                + "int mover = onMove; endMove(); above[mover] += kept; below[mover] -= kept;")
            .broken("int moveByTag(", "endMove();", "int kept = Math.min(settings[RUNNING], above[onMove]); "
                + "int mover = onMove; endMove(); above[mover] += kept; below[mover] -= kept;")
            .broken("refused++;", "refused++; int grains = Math.min(settings[RUNNING], above[onMove]); "
                + "above[onMove] -= grains; below[onMove] += grains;");
        all.test("Moves", "setting 0 grains, as far as there are, come from above to below.",
            TermSentences::moves_setting0GrainsAsFarAsThereAre)
            .broken("Math.min(settings[RUNNING], above[onMove])", "settings[RUNNING]")
            .broken("Math.min(settings[RUNNING], above[onMove])",
                "Math.min(19, Math.min(settings[RUNNING], above[onMove]))")
            .broken("Math.min(settings[RUNNING], above[onMove])",
                "(settings[RUNNING] > above[onMove] ? 0 : settings[RUNNING])")
            .broken("Math.min(settings[RUNNING], above[onMove])",
                "(settings[RUNNING] >= above[onMove] ? 0 : settings[RUNNING])");
        all.test("Moves", "Then the next player is on the move.", TermSentences::moves_thenTheNextIsOnTheMove)
            .broken("refused++;", "refused++; onMove = onMove + 1 < players ? onMove + 1 : 0;")
            .broken("int moveByTag(", "endMove();", "int before = onMove; endMove(); onMove = before;")
            .broken("int moveByTag(", "endMove();", "endMove(); onMove = other;")
            .broken("int moveByTurn(", "endMove();", "int before = onMove; endMove(); onMove = before;")
            .broken("int moveByStride(", "endMove();", "int before = onMove; endMove(); onMove = before;");
    }

    private static void moves_sandRunsBehindEach(Check c) {
        HourglassTag x = Games.pair(4, 10);
        x.rest();
        c.same("to wait", Games.glass(x, 0), "4/97/13");
        c.same("only who waited", Games.glass(x, 1), "4/100/10");
        x.stride(5);
        c.same("to stride", Games.glass(x, 1), "5/97/11");
        c.same("only who strode", Games.glass(x, 0), "4/97/13");
        x.tag(1);
        c.same("to tag: 5 are taken, 3 run", Games.glass(x, 0), "4/99/16");
        c.same("only who tagged", Games.glass(x, 1), "5/97/6");
        x.turnOver();
        c.same("to turn over: 5 and 97, of which 3 run", Games.glass(x, 1), "5/2/100");
        c.same("refused: 0 stands there", x.stride(4), 1);
        x.set(2, 20);
        c.same("refused: 20 of 16", x.turnOver(), 4);
        c.same("refused: 0 is not it", x.tag(1), 5);
        c.same("nothing runs", Games.glass(x, 0), "4/99/16");
        c.same("nothing runs either", Games.glass(x, 1), "5/2/100");
    }

    private static void moves_setting0GrainsAsFarAsThereAre(Check c) {
        for (int running = 1; running <= 20; running++) {
            for (int above : new int[] {0, 1, running - 1, running, running + 1, 200}) {
                HourglassTag x = Games.withPlayers(4, above);
                x.set(0, running);
                int due = above < running ? above : running;
                c.same(running + " of " + above, x.rest(), due);
                c.same("they came below", Games.glass(x, 0), "4/" + (above - due) + "/" + due);
            }
        }
    }

    private static void moves_thenTheNextIsOnTheMove(Check c) {
        HourglassTag x = Games.withPlayers(4, 50, 4, 50, 4, 50);
        Games.rest(x, 3);
        x.rest();
        c.same("behind a wait", x.count(1), 1);
        x.stride(5);
        c.same("behind a stride", x.count(1), 2);
        x.turnOver();
        c.same("behind a turn of the last one", x.count(1), 0);
        x.tag(2);
        c.same("behind a tag", x.count(1), 1);
        x.stride(5);
        c.same("behind a refused stride", x.count(1), 1);
        x.set(2, 20);
        x.turnOver();
        c.same("behind a refused turn", x.count(1), 1);
        x.tag(0);
        c.same("behind a refused tag", x.count(1), 1);
        x.rest();
        x.tag(0);
        c.same("behind a tag of the last one", x.count(1), 0);
    }
}
