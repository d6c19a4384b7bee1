import java.util.ArrayList;
import java.util.HashMap;
import java.util.HashSet;
import java.util.List;
import java.util.Map;
import java.util.Set;

/** The document once more, told with lists, maps and sets, for ModelTest to compare with. */
final class Model {
    private record Cue(int kind, int player, int other, int waits) {
    }

    private final Map<Integer, Integer> costumes = new HashMap<>();
    private final Map<Integer, Integer> masks = new HashMap<>();
    private final Map<Integer, Integer> wears = new HashMap<>();
    private final Map<Integer, Integer> points = new HashMap<>();
    private final Set<Integer> stage = new HashSet<>();
    private final Set<String> guesses = new HashSet<>();
    private final List<Cue> cues = new ArrayList<>();
    private final Set<Integer> called = new HashSet<>();
    private final Set<Integer> missed = new HashSet<>();
    private int purse = 10;
    private int plays = 0;

    private static void bound(int number, int count) {
        if (number < 0 || number >= count) {
            throw new IndexOutOfBoundsException();
        }
    }

    private static void state(boolean wrong) {
        if (wrong) {
            throw new IllegalStateException();
        }
    }

    int dress(int player, int costume) {
        bound(player, 6);
        bound(costume, 8);
        int difference = costume - 1 - player;
        if (difference < -1 || difference > 1) {
            throw new IllegalArgumentException();
        }
        state(stage.contains(player));
        boolean mine = costumeOf(player) == costume;
        state(!mine && costumes.containsValue(costume));
        state(wear(costume) == 3);
        Integer before = costumes.put(player, costume);
        return before == null ? -1 : before;
    }

    int repair(int costume) {
        bound(costume, 8);
        state(costumes.containsValue(costume));
        state(purse < wear(costume));
        purse -= wear(costume);
        wears.remove(costume);
        return purse;
    }

    int costumeOf(int player) {
        bound(player, 6);
        return costumes.getOrDefault(player, -1);
    }

    int wear(int costume) {
        bound(costume, 8);
        return wears.getOrDefault(costume, 0);
    }

    int purse() {
        return purse;
    }

    int addCue(int kind, int player, int other, int waits) {
        if (kind < 0 || kind > 4) {
            throw new IllegalArgumentException();
        }
        bound(player, 6);
        if (kind == 2 || kind == 4) {
            bound(other, 6);
        }
        bound(waits + 1, cues.size() + 1);
        state(cues.size() == 24 || kind == 4 && player == other || missed.contains(waits));
        cues.add(new Cue(kind, player, other, waits));
        return cues.size() - 1;
    }

    boolean canCall(int cue) {
        bound(cue, cues.size());
        Cue c = cues.get(cue);
        if (called.contains(cue) || missed.contains(cue)) {
            return false;
        }
        if (c.waits != -1 && !called.contains(c.waits)) {
            return false;
        }
        boolean masked = masks.containsKey(c.player);
        boolean on = stage.contains(c.player);
        return switch (c.kind) {
            case 0 -> !on && costumes.containsKey(c.player);
            case 1 -> on;
            case 2 -> !masked && !masks.containsValue(c.other);
            case 3 -> masked;
            default -> on && stage.contains(c.other) && (masked || masks.containsKey(c.other));
        };
    }

    int call(int cue) {
        state(!canCall(cue));
        Cue c = cues.get(cue);
        called.add(cue);
        switch (c.kind) {
            case 0 -> stage.add(c.player);
            case 1 -> exit(c.player);
            case 2 -> masks.put(c.player, c.other);
            case 3 -> masks.remove(c.player);
            default -> swap(c.player, c.other);
        }
        return called.size();
    }

    private void exit(int player) {
        stage.remove(player);
        int costume = costumes.get(player);
        if (wears.merge(costume, 1, Integer::sum) == 3) {
            costumes.remove(player);
        }
    }

    private void swap(int a, int b) {
        Integer ofA = masks.remove(a);
        Integer ofB = masks.remove(b);
        if (ofA != null) {
            masks.put(b, ofA);
        }
        if (ofB != null) {
            masks.put(a, ofB);
        }
    }

    int run() {
        for (int cue = 0; cue < cues.size(); cue++) {
            if (canCall(cue)) {
                call(cue);
                return 1 + run();
            }
        }
        return 0;
    }

    int miss(int cue) {
        bound(cue, cues.size());
        state(called.contains(cue) || missed.contains(cue));
        missed.add(cue);
        int count = 1;
        for (int other = 0; other < cues.size(); other++) {
            if (cues.get(other).waits == cue && !called.contains(other) && !missed.contains(other)) {
                count += miss(other);
            }
        }
        return count;
    }

    int stateOf(int cue) {
        bound(cue, cues.size());
        return called.contains(cue) ? 1 : missed.contains(cue) ? 2 : 0;
    }

    int cues() {
        return cues.size();
    }

    int maskOf(int player) {
        bound(player, 6);
        return masks.getOrDefault(player, -1);
    }

    int wearerOf(int mask) {
        bound(mask, 6);
        for (Map.Entry<Integer, Integer> worn : masks.entrySet()) {
            if (worn.getValue() == mask) {
                return worn.getKey();
            }
        }
        return -1;
    }

    boolean isOn(int player) {
        bound(player, 6);
        return stage.contains(player);
    }

    boolean guess(int guesser, int player, int part) {
        bound(guesser, 3);
        bound(player, 6);
        bound(part, 6);
        state(!stage.contains(player) || !masks.containsKey(player));
        state(!guesses.add(guesser + " " + player));
        boolean right = masks.get(player) == part;
        points.merge(guesser, right ? 3 : -1, Integer::sum);
        return right;
    }

    int points(int guesser) {
        bound(guesser, 3);
        return points.getOrDefault(guesser, 0);
    }

    int endPlay() {
        state(called.size() + missed.size() < cues.size());
        purse += called.size();
        purse -= Math.min(purse, missed.size());
        masks.clear();
        stage.clear();
        cues.clear();
        called.clear();
        missed.clear();
        guesses.clear();
        plays++;
        return purse;
    }

    int plays() {
        return plays;
    }
}
