import java.util.ArrayDeque;
import java.util.ArrayList;
import java.util.Arrays;
import java.util.Deque;
import java.util.HashSet;
import java.util.List;
import java.util.Set;

/**
 * The document once more, written in the plainest way without a thought for what it costs, so that long runs can be
 * compared with it. Nothing of the program is used here.
 */
final class Model {
    private static final class State implements Cloneable {
        List<Integer> heights = new ArrayList<>(java.util.Collections.nCopies(10, 0));
        List<Integer> lying = new ArrayList<>(java.util.Collections.nCopies(10, 0));
        List<Integer> settings = new ArrayList<>(List.of(3, 2, 1, 1));
        /** For each player: tower, above, below, moves, tags, tagged, paid. */
        List<int[]> glasses = new ArrayList<>();
        int turn = 0;
        int it = 0;
        int refused = 0;
        int brought = 0;

        State copy() {
            State s = new State();
            s.heights = new ArrayList<>(heights);
            s.lying = new ArrayList<>(lying);
            s.settings = new ArrayList<>(settings);
            for (int[] glass : glasses) {
                s.glasses.add(glass.clone());
            }
            s.turn = turn;
            s.it = it;
            s.refused = refused;
            s.brought = brought;
            return s;
        }
    }

    private State now = new State();
    private final State[] slots = new State[2];
    private final Deque<State> saved = new ArrayDeque<>();
    private String buffer = "";

    private void save(State state) {
        saved.addLast(state.copy());
        if (saved.size() > 6) {
            saved.removeFirst();
        }
    }

    private static void index(boolean fine) {
        if (!fine) {
            throw new IndexOutOfBoundsException();
        }
    }

    private static void argument(boolean fine) {
        if (!fine) {
            throw new IllegalArgumentException();
        }
    }

    private static void state(boolean fine) {
        if (!fine) {
            throw new IllegalStateException();
        }
    }

    private static boolean in(int value, int least, int most) {
        return least <= value && value <= most;
    }

    private int players() {
        return now.glasses.size();
    }

    private int total(int column) {
        return now.glasses.stream().mapToInt(glass -> glass[column]).sum();
    }

    private int onTowers() {
        return now.lying.stream().mapToInt(Integer::intValue).sum();
    }

    int height(int tower, int height) {
        index(in(tower, 0, 9));
        argument(in(height, 0, 9));
        save(now);
        return now.heights.set(tower, height);
    }

    int player(int tower, int sand) {
        index(in(tower, 0, 9));
        argument(in(sand, 0, 200));
        state(players() < 4);
        save(now);
        now.glasses.add(new int[] {tower, sand, 0, 0, 0, 0, 0});
        now.brought += sand;
        return players() - 1;
    }

    int set(int setting, int value) {
        index(in(setting, 0, 3));
        argument(in(value, setting == 0 ? 1 : 0, setting % 2 == 0 ? 20 : 9));
        save(now);
        return now.settings.set(setting, value);
    }

    int rest() {
        state(players() > 0);
        save(now);
        return waits();
    }

    int stride(int tower) {
        index(in(tower, 0, 9));
        state(players() > 0);
        save(now);
        return strides(tower);
    }

    int turnOver() {
        state(players() > 0);
        save(now);
        return turns();
    }

    int tag(int player) {
        index(in(player, 0, players() - 1));
        save(now);
        return tags(player);
    }

    private int waits() {
        int[] glass = now.glasses.get(now.turn);
        int grains = 0;
        while (grains < now.settings.get(0) && glass[1] > 0) {
            glass[1]--;
            glass[2]++;
            grains++;
        }
        glass[3]++;
        now.turn = (now.turn + 1) % players();
        return grains;
    }

    private int refusal(int reason) {
        now.refused++;
        return reason;
    }

    private int strides(int tower) {
        int reason = whyNot(now.turn, tower);
        if (reason > 0) {
            return refusal(reason);
        }
        int[] glass = now.glasses.get(now.turn);
        int price = single(glass[0], tower);
        glass[2] -= price;
        glass[6] += price;
        now.lying.set(glass[0], now.lying.get(glass[0]) + price);
        glass[0] = tower;
        glass[1] += now.lying.set(tower, 0);
        waits();
        return 0;
    }

    private int turns() {
        int[] glass = now.glasses.get(now.turn);
        int price = now.settings.get(2);
        if (price > glass[2]) {
            return refusal(4);
        }
        glass[6] += price;
        now.lying.set(glass[0], now.lying.get(glass[0]) + price);
        int above = glass[2] - price;
        glass[2] = glass[1];
        glass[1] = above;
        waits();
        return 0;
    }

    private int whyNoTag(int player, int other) {
        int from = now.glasses.get(player)[0];
        int to = now.glasses.get(other)[0];
        if (now.it != player) {
            return 5;
        }
        if (player == other) {
            return 6;
        }
        if (!sees(from, to)) {
            return 2;
        }
        return Math.abs(from - to) > now.settings.get(3) ? 7 : 0;
    }

    private int tags(int other) {
        int reason = whyNoTag(now.turn, other);
        if (reason > 0) {
            return refusal(reason);
        }
        int[] mine = now.glasses.get(now.turn);
        int[] theirs = now.glasses.get(other);
        int half = theirs[2] / 2;
        theirs[2] -= half;
        theirs[5]++;
        mine[1] += half;
        mine[4]++;
        now.it = other;
        waits();
        return 0;
    }

    int append(int code) {
        argument(in(code, 33, 126));
        state(buffer.length() < 60);
        buffer += (char) code;
        return buffer.length();
    }

    int clearBuffer() {
        int length = buffer.length();
        buffer = "";
        return length;
    }

    int firstError() {
        for (int i = 0; i < buffer.length(); i++) {
            if (!buffer.substring(0, i + 1).matches("(w|o|s[0-9]|t[0-3])*[st]?")) {
                return i;
            }
        }
        return buffer.length();
    }

    int run() {
        argument(buffer.matches("(w|o|s[0-9]|t[0-3])+"));
        save(now);
        String left = buffer;
        buffer = "";
        int done = 0;
        while (!left.isEmpty()) {
            char letter = left.charAt(0);
            boolean two = letter == 's' || letter == 't';
            int digit = two ? left.charAt(1) - '0' : 0;
            left = left.substring(two ? 2 : 1);
            if (players() == 0 || letter == 't' && digit >= players()) {
                return done;
            }
            int reason = 0;
            if (letter == 'w') {
                waits();
            } else if (letter == 'o') {
                reason = turns();
            } else {
                reason = letter == 's' ? strides(digit) : tags(digit);
            }
            if (reason != 0) {
                return done;
            }
            done++;
        }
        return done;
    }

    int keep(int slot) {
        argument(in(slot, 0, 1));
        slots[slot] = now.copy();
        return total(3);
    }

    int goBack(int slot) {
        argument(in(slot, 0, 1));
        state(slots[slot] != null);
        save(now);
        now = slots[slot].copy();
        return total(3);
    }

    int undo() {
        state(!saved.isEmpty());
        now = saved.removeLast();
        return saved.size();
    }

    private boolean sees(int one, int other) {
        int higher = Math.max(now.heights.get(one), now.heights.get(other));
        for (int tower = 0; tower < 10; tower++) {
            boolean between = one < tower && tower < other || other < tower && tower < one;
            if (between && now.heights.get(tower) > higher) {
                return false;
            }
        }
        return true;
    }

    private int single(int from, int to) {
        int price = now.settings.get(1) * Math.abs(from - to);
        int up = now.heights.get(to) - now.heights.get(from);
        return up > 0 ? price + up : price;
    }

    int tower(int tower, int what) {
        index(in(tower, 0, 9));
        argument(in(what, 0, 3));
        if (what == 0) {
            return now.heights.get(tower);
        }
        if (what == 1) {
            return now.lying.get(tower);
        }
        int mask = 0;
        for (int i = 0; i < (what == 2 ? players() : 10); i++) {
            mask += (what == 2 ? now.glasses.get(i)[0] == tower : sees(tower, i)) ? 1 << i : 0;
        }
        return mask;
    }

    int playerOf(int player, int what) {
        index(in(player, 0, players() - 1));
        argument(in(what, 0, 8));
        if (what == 3) {
            return now.it == player ? 1 : 0;
        }
        if (what == 8) {
            int mask = 0;
            for (int tower = 0; tower < 10; tower++) {
                mask += whyNot(player, tower) == 0 ? 1 << tower : 0;
            }
            return mask;
        }
        return now.glasses.get(player)[what < 3 ? what : what - 1];
    }

    int count(int what) {
        argument(in(what, 0, 10));
        int[] all = {
            players(), players() == 0 ? -1 : now.turn, players() == 0 ? -1 : now.it, total(3), now.refused, total(4),
            total(1) + total(2) + onTowers(), total(1) + total(2), onTowers(), now.brought, saved.size()
        };
        return all[what];
    }

    int setting(int setting) {
        index(in(setting, 0, 3));
        return now.settings.get(setting);
    }

    int price(int from, int to, int what) {
        index(in(from, 0, 9) && in(to, 0, 9));
        argument(in(what, 0, 1));
        int[] cost = new int[10];
        Arrays.fill(cost, 99999);
        cost[from] = 0;
        for (int round = 0; round < 10; round++) {
            for (int a = 0; a < 10; a++) {
                for (int b = 0; b < 10; b++) {
                    if (sees(a, b)) {
                        cost[b] = Math.min(cost[b], cost[a] + single(a, b));
                    }
                }
            }
        }
        return cost[to];
    }

    int whyNot(int player, int tower) {
        index(in(player, 0, players() - 1) && in(tower, 0, 9));
        int[] glass = now.glasses.get(player);
        if (glass[0] == tower) {
            return 1;
        }
        if (!sees(glass[0], tower)) {
            return 2;
        }
        return single(glass[0], tower) > glass[2] ? 3 : 0;
    }

    /** Plays whole copies of the state ahead, with all players waiting in between, and looks who stands where. */
    int movesTo(int player, int tower) {
        index(in(player, 0, players() - 1) && in(tower, 0, 9));
        State real = now;
        Set<String> seen = new HashSet<>();
        List<State> level = List.of(real);
        int answer = -1;
        for (int moves = 0; moves <= 4 && answer < 0; moves++) {
            List<State> next = new ArrayList<>();
            for (State s : level) {
                if (s.glasses.get(player)[0] == tower) {
                    answer = moves;
                }
                for (int move = -2; move < 10 && moves < 4; move++) {
                    now = s.copy();
                    now.turn = player;
                    int reason = move == -2 ? waits() * 0 : move == -1 ? turns() : strides(move);
                    if (reason == 0 && seen.add(told(player))) {
                        next.add(now);
                    }
                }
            }
            level = next;
        }
        now = real;
        return answer;
    }

    private String told(int player) {
        int[] glass = now.glasses.get(player);
        return glass[0] + " " + glass[1] + " " + glass[2] + " " + now.lying;
    }

    int prey() {
        int mask = 0;
        for (int other = 0; other < players(); other++) {
            mask += whyNoTag(now.it, other) == 0 ? 1 << other : 0;
        }
        return mask;
    }

    int lookout() {
        int best = 0;
        for (int tower = 1; tower < 10; tower++) {
            if (Integer.bitCount(tower(tower, 3)) > Integer.bitCount(tower(best, 3))) {
                best = tower;
            }
        }
        return best;
    }

    double belowShare() {
        return count(7) == 0 ? 0.0 : (double) total(2) / count(7);
    }

    long digest() {
        List<Long> values = new ArrayList<>();
        for (int what = 0; what <= 10; what++) {
            values.add((long) count(what));
        }
        now.settings.forEach(value -> values.add((long) value));
        for (int tower = 0; tower < 10; tower++) {
            for (int what = 0; what <= 3; what++) {
                values.add((long) tower(tower, what));
            }
            values.add((long) price(0, tower, 0));
            values.add((long) price(0, tower, 1));
        }
        for (int player = 0; player < players(); player++) {
            for (int what = 0; what <= 8; what++) {
                values.add((long) playerOf(player, what));
            }
            for (int tower = 0; tower < 10; tower++) {
                values.add((long) whyNot(player, tower));
            }
            values.add((long) movesTo(player, 9));
        }
        values.add((long) prey());
        values.add((long) lookout());
        values.add(Double.doubleToLongBits(belowShare()));
        values.add(slots[0] != null ? 1L : 0L);
        values.add(slots[1] != null ? 1L : 0L);
        values.add((long) buffer.length());
        buffer.chars().forEach(code -> values.add((long) code));
        long hash = 3229;
        for (long value : values) {
            hash = 31 * hash + value;
        }
        return hash;
    }
}
