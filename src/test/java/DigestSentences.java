/** The tests of the sentences of the promise 26. */
final class DigestSentences {
    private static final String CALL = "public long digest(";

    private DigestSentences() {
    }

    static void addTo(Sentences all) {
        hash(all);
        values(all);
    }

    private static void hash(Sentences all) {
        String p = "Promise 26";
        all.test(p, "Computes a hash of the whole state.", DigestSentences::promise26_hashOfTheWholeState)
            .broken(CALL, "return hash;", "return hash ^ 1L;")
            .broken(CALL, "return hash;", "return (int) hash;");
        all.test(p, "The hash starts at 3229.", DigestSentences::promise26_startsAt3229)
            .broken("long hash = 3229L;", "long hash = 3228L;");
        all.test(p, "For each value v of the following list, in order, the hash becomes 31 * hash + v, "
            + "in long arithmetic with overflow.", DigestSentences::promise26_31TimesHashPlusV)
            .broken("hash = 31L * hash + number(what);", "hash = 33L * hash + number(what);")
            .broken("hash = 31L * hash + game.settings[i];",
                "hash = (31L * hash + game.settings[i]) & 0x7fffffffffffffffL;")
            .broken("hash = 31L * hash + number(what);", "hash = (int) (31L * hash + number(what));");
    }

    private static void values(Sentences all) {
        String p = "Promise 26";
        all.test(p, "The values are: count(0) to count(10);", DigestSentences::promise26_counts)
            .broken(CALL, "what < COUNTS", "what < COUNTS - 1")
            .broken(CALL, "int what = 0;", "int what = 1;");
        all.test(p, "the settings 0 to 3;", DigestSentences::promise26_settings)
            .broken(CALL, "i < SETTINGS", "i < SETTINGS - 1")
            .broken(CALL, "+ game.settings[i];", "+ SETTING_AT_FIRST[i];");
        all.test(p, "for each tower its properties 0 to 3, and the price from the tower 0 to it, with 0 and with 1;",
                DigestSentences::promise26_towers)
            .broken("private long withTowers(", "tower < TOWERS", "tower < TOWERS - 1")
            .broken("private long withTowers(", "what < TOWER_PROPERTIES", "what < TOWER_PROPERTIES - 1")
            .broken("private long withTowers(", "ways.cheapestByGoingOver(0, tower)", "ways.single[0][tower]")
            .broken("private long withTowers(", "ways.cheapestBySettling(0, tower)",
                "ways.cheapestBySettling(tower, 0)");
        all.test(p, "for each player the properties 0 to 8, whyNot of all towers, and movesTo of the tower 9;",
                DigestSentences::promise26_players)
            .broken(CALL, "i < game.players", "i < Math.min(3, game.players)")
            .broken(CALL, "i < game.players", "i < MOST_PLAYERS")
            .broken("private long withPlayer(", "what < PLAYER_PROPERTIES", "what < PLAYER_PROPERTIES - 1")
            .broken("private long withPlayer(", "tower < TOWERS", "tower < TOWERS - 1")
            .broken("private long withPlayer(", "TOWERS - 1)", "TOWERS - 2)");
        all.test(p, "prey; lookout;", DigestSentences::promise26_preyAndLookout)
            .broken(CALL, "+ game.playersInReachOfIt();", "+ 0;")
            .broken(CALL, "+ game.towerThatSeesMost();", "+ 0;");
        all.test(p, "the bits of belowShare (as Double.doubleToLongBits);", DigestSentences::promise26_bitsOfTheShare)
            .broken("private static long bitsOf(", "if (share <= 0.0) {", "if (share < 0.0) {")
            .broken("private static long bitsOf(", "long exponent = 1023L;", "long exponent = 1022L;")
            .broken("private static long bitsOf(", "i < 1000", "i < 9")
            .broken("private static long bitsOf(", "exponent--;", "exponent -= 2;")
            .broken("private static long bitsOf(", "4503599627370496.0", "4503599627370495.0");
        all.test(p, "for each slot 1 if it has a snapshot, otherwise 0;", DigestSentences::promise26_slots)
            .broken(CALL, "slotFilled[i] ? 1L : 0L", "slotFilled[0] ? 1L : 0L")
            .broken(CALL, "slotFilled[i] ? 1L : 0L", "slotFilled[i] ? 0L : 1L");
        all.test(p, "the length of the buffer and each of its character codes.", DigestSentences::promise26_buffer)
            .broken(CALL, "+ text.length;", "+ 0;")
            .broken(CALL, "i < text.length;", "i < Math.min(59, text.length);")
            .broken(CALL, "int i = 0; i < text.length;", "int i = 1; i < text.length;");
        all.test(p, "Returns the hash.", DigestSentences::promise26_returnsTheHash)
            .broken(CALL, "return hash;", "return -hash;");
    }

    /** The digest as the document tells it, from the answers of all other calls. */
    static long due(HourglassTag x, int slot0, int slot1, String buffer) {
        long hash = 3229;
        for (int what = 0; what <= 10; what++) {
            hash = 31 * hash + x.count(what);
        }
        for (int setting = 0; setting <= 3; setting++) {
            hash = 31 * hash + x.setting(setting);
        }
        for (int tower = 0; tower <= 9; tower++) {
            for (int what = 0; what <= 3; what++) {
                hash = 31 * hash + x.tower(tower, what);
            }
            hash = 31 * hash + x.price(0, tower, 0);
            hash = 31 * hash + x.price(0, tower, 1);
        }
        for (int player = 0; player < x.count(0); player++) {
            for (int what = 0; what <= 8; what++) {
                hash = 31 * hash + x.playerOf(player, what);
            }
            for (int tower = 0; tower <= 9; tower++) {
                hash = 31 * hash + x.whyNot(player, tower);
            }
            hash = 31 * hash + x.movesTo(player, 9);
        }
        hash = 31 * hash + x.prey();
        hash = 31 * hash + x.lookout();
        hash = 31 * hash + Double.doubleToLongBits(x.belowShare());
        hash = 31 * hash + slot0;
        hash = 31 * hash + slot1;
        hash = 31 * hash + buffer.length();
        for (int i = 0; i < buffer.length(); i++) {
            hash = 31 * hash + buffer.charAt(i);
        }
        return hash;
    }

    private static void promise26_hashOfTheWholeState(Check c) {
        c.same("a new object", Games.empty().digest(), due(Games.empty(), 0, 0, ""));
        c.same("a busy one", Games.busy().digest(), due(Games.busy(), 0, 1, "ws5o"));
        c.same("a young one", Games.young().digest(), due(Games.young(), 1, 0, ""));
        c.same("a full one", Games.full().digest(), due(Games.full(), 1, 1, "w".repeat(60)));
        c.same("9999 moves", Games.with9999Moves().digest(), due(Games.with9999Moves(), 0, 0, ""));
        HourglassTag x = Games.young();
        long before = x.digest();
        x.rest();
        c.holds("another state has another one", x.digest() != before);
        x.undo();
        c.same("with undo it comes back", x.digest(), before);
    }

    /** A new object, told number by number: all that is not 0 stands here. */
    private static void promise26_startsAt3229(Check c) {
        long hash = 3229;
        long[] values = new long[11 + 4 + 60 + 3 + 3];
        values[1] = -1;
        values[2] = -1;
        values[11] = 3;
        values[12] = 2;
        values[13] = 1;
        values[14] = 1;
        for (int tower = 0; tower <= 9; tower++) {
            values[15 + 6 * tower + 3] = 1023;
            values[15 + 6 * tower + 4] = 2L * tower;
            values[15 + 6 * tower + 5] = 2L * tower;
        }
        for (long value : values) {
            hash = 31 * hash + value;
        }
        c.same("a new object", new HourglassTag().digest(), hash);
    }

    private static void promise26_31TimesHashPlusV(Check c) {
        promise26_startsAt3229(c);
        HourglassTag x = new HourglassTag();
        long empty = x.digest();
        x.append(33);
        long one = x.digest();
        c.same("the last value is the last character", one, 31 * (empty + 1) + 33);
        x.append(126);
        c.same("two characters", x.digest(), 31 * (31 * (empty + 2) + 33) + 126);
        HourglassTag moved = Games.withPlayers(4, 20, 5, 30);
        for (int move = 0; move < 20; move++) {
            c.same("with overflow", moved.digest(), due(moved, 0, 0, ""));
            moved.rest();
        }
    }

    private static void promise26_counts(Check c) {
        HourglassTag x = Games.withPlayers(4, 20, 5, 30, 4, 7);
        c.same("with players", x.digest(), due(x, 0, 0, ""));
        x.stride(9);
        c.same("with a refused one", x.digest(), due(x, 0, 0, ""));
        x.tag(1);
        c.same("with a tag", x.digest(), due(x, 0, 0, ""));
        for (int i = 0; i < 6; i++) {
            x.undo();
            c.same("with fewer saved states", x.digest(), due(x, 0, 0, ""));
            if (x.count(10) == 0) {
                break;
            }
        }
        c.same("without players", x.digest(), new HourglassTag().digest());
    }

    private static void promise26_settings(Check c) {
        int[] most = {20, 9, 20, 9};
        for (int setting = 0; setting <= 3; setting++) {
            HourglassTag x = Games.withPlayers(4, 20);
            x.set(setting, most[setting]);
            c.same("the most of " + setting, x.digest(), due(x, 0, 0, ""));
            x.set(setting, 1);
            c.same("the least of " + setting, x.digest(), due(x, 0, 0, ""));
        }
    }

    private static void promise26_towers(Check c) {
        for (int tower = 0; tower <= 9; tower++) {
            HourglassTag x = Games.withPlayers(tower, 20);
            x.height(tower, 9);
            x.height((tower + 2) % 10, 4);
            x.rest();
            x.turnOver();
            c.same("with a tower " + tower, x.digest(), due(x, 0, 0, ""));
        }
    }

    private static void promise26_players(Check c) {
        HourglassTag x = new HourglassTag();
        for (int players = 0; players <= 4; players++) {
            c.same("with players", x.digest(), due(x, 0, 0, ""));
            if (players < 4) {
                x.player(3 * players, 50 - 10 * players);
                x.rest();
            }
        }
        for (int move = 0; move < 12; move++) {
            x.rest();
            x.stride((move * 3 + 1) % 10);
            c.same("behind moves", x.digest(), due(x, 0, 0, ""));
        }
    }

    private static void promise26_preyAndLookout(Check c) {
        HourglassTag x = Games.withPlayers(4, 20, 5, 30, 9, 7);
        c.same("prey", x.digest(), due(x, 0, 0, ""));
        x.height(7, 2);
        c.same("lookout", x.digest(), due(x, 0, 0, ""));
        x.set(3, 0);
        c.same("no prey", x.digest(), due(x, 0, 0, ""));
    }

    /** Shares from 1/800 to 1, and 0; each one is told by its digest. */
    private static void promise26_bitsOfTheShare(Check c) {
        for (int sand : new int[] {0, 1, 2, 3, 7, 64, 99, 199, 200}) {
            HourglassTag x = Games.withPlayers(4, sand);
            x.set(0, 1);
            for (int below = 0; below <= Math.min(sand, 100); below++) {
                c.same("share " + x.belowShare(), x.digest(), due(x, 0, 0, ""));
                x.rest();
            }
        }
        HourglassTag least = Games.withPlayers(4, 200, 4, 200, 4, 200, 4, 200);
        least.set(0, 1);
        for (int below = 0; below <= 30; below++) {
            c.same("share of 800", least.digest(), due(least, 0, 0, ""));
            least.rest();
        }
        HourglassTag most = Games.withPlayers(4, 200, 4, 200, 4, 200, 4, 200);
        most.set(0, 20);
        Games.rest(most, 36);
        most.set(0, 3);
        for (int move = 0; move <= 28; move++) {
            c.same("share up to 1", most.digest(), due(most, 0, 0, ""));
            most.rest();
        }
        c.same("all below", most.belowShare(), 1.0);
    }

    private static void promise26_slots(Check c) {
        for (int slot = 0; slot <= 1; slot++) {
            HourglassTag x = Games.withPlayers(4, 20);
            c.same("no snapshot", x.digest(), due(x, 0, 0, ""));
            x.keep(slot);
            c.same("one snapshot", x.digest(), due(x, 1 - slot, slot, ""));
            x.keep(1 - slot);
            c.same("two snapshots", x.digest(), due(x, 1, 1, ""));
            x.undo();
            c.same("slots stay with undo", x.digest(), due(x, 1, 1, ""));
        }
    }

    private static void promise26_buffer(Check c) {
        HourglassTag x = new HourglassTag();
        StringBuilder text = new StringBuilder();
        for (int length = 0; length < 60; length++) {
            c.same("with a buffer of " + length, x.digest(), due(x, 0, 0, text.toString()));
            char code = (char) (33 + length * 93 / 59);
            x.append(code);
            text.append(code);
        }
        c.same("with a buffer of 60", x.digest(), due(x, 0, 0, text.toString()));
        x.clearBuffer();
        c.same("cleared", x.digest(), new HourglassTag().digest());
    }

    private static void promise26_returnsTheHash(Check c) {
        promise26_startsAt3229(c);
        c.same("again the same", Games.busy().digest(), Games.busy().digest());
        HourglassTag x = Games.busy();
        c.same("twice the same", x.digest(), x.digest());
    }
}
