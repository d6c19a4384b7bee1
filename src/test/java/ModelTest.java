import java.util.concurrent.Callable;

/** Long runs of mixed calls on the program and on the model, answer by answer. */
public final class ModelTest {
    private static final int RUNS = 3000;
    // The document promises nothing about an object after so many calls.
    private static final int CALLS = 512;
    private static final int ACTS = 20;

    private static final Check CHECK = new Check("ModelTest");

    private final Clockmask theatre = new Clockmask();
    private final Model model = new Model();
    private final boolean ending;
    private long seed;
    private int calls = 0;

    private ModelTest(int run) {
        seed = run;
        ending = run % 2 == 0;
    }

    public static void main(String[] args) {
        for (int run = 0; run < RUNS; run++) {
            new ModelTest(run).compare(run);
        }
        CHECK.end();
    }

    private void compare(int run) {
        while (calls < CALLS) {
            act("run " + run + ", call " + calls);
        }
    }

    /** A number below the bound; the same ones in each run of the test. */
    private int pick(int bound) {
        seed = seed * 6364136223846793005L + 1442695040888963407L;
        return (int) ((seed >>> 33) % bound);
    }

    /** Mostly a number that there is, now and then one just outside. */
    private int number(int count) {
        return pick(24) == 0 ? (pick(2) == 0 ? -1 : count) : pick(Math.max(1, count));
    }

    private void act(String where) {
        int player = number(6);
        int other = number(6);
        int costume = number(8);
        int cue = number(model.cues());
        int guesser = number(3);
        int kind = number(5);
        int waits = pick(2) == 0 ? -1 : number(model.cues());
        switch (pick(ACTS)) {
            case 0, 1 -> same(where + " dress(" + player + ", " + costume + ")",
                () -> theatre.dress(player, costume), () -> model.dress(player, costume));
            case 2 -> same(where + " repair(" + costume + ")",
                () -> theatre.repair(costume), () -> model.repair(costume));
            case 3, 4, 5, 6 -> same(where + " addCue(" + kind + ", " + player + ", " + other + ", " + waits + ")",
                () -> theatre.addCue(kind, player, other, waits), () -> model.addCue(kind, player, other, waits));
            case 7, 8, 9 -> same(where + " call(" + cue + ")",
                () -> theatre.call(cue), () -> model.call(cue));
            case 10 -> same(where + " run()", theatre::run, model::run);
            case 11 -> same(where + " miss(" + cue + ")",
                () -> theatre.miss(cue), () -> model.miss(cue));
            case 12, 13 -> same(where + " guess(" + guesser + ", " + player + ", " + other + ")",
                () -> theatre.guess(guesser, player, other), () -> model.guess(guesser, player, other));
            case 14 -> endPlay(where);
            default -> ask(where, player, costume, cue, guesser);
        }
    }

    /** Every other run misses what still waits, so that plays end and others follow. */
    private void endPlay(String where) {
        for (int cue = 0; ending && model.cues() >= 20 && cue < model.cues(); cue++) {
            int c = cue;
            same(where + " miss(" + c + ") to end", () -> theatre.miss(c), () -> model.miss(c));
        }
        same(where + " endPlay()", theatre::endPlay, model::endPlay);
    }

    private void ask(String where, int player, int costume, int cue, int guesser) {
        switch (pick(12)) {
            case 0 -> same(where + " costumeOf(" + player + ")",
                () -> theatre.costumeOf(player), () -> model.costumeOf(player));
            case 1 -> same(where + " wear(" + costume + ")",
                () -> theatre.wear(costume), () -> model.wear(costume));
            case 2 -> same(where + " canCall(" + cue + ")",
                () -> theatre.canCall(cue), () -> model.canCall(cue));
            case 3 -> same(where + " stateOf(" + cue + ")",
                () -> theatre.stateOf(cue), () -> model.stateOf(cue));
            case 4 -> same(where + " maskOf(" + player + ")",
                () -> theatre.maskOf(player), () -> model.maskOf(player));
            case 5 -> same(where + " maskByCues(" + player + ")",
                () -> theatre.maskByCues(player), () -> model.maskOf(player));
            case 6 -> same(where + " wearerOf(" + player + ")",
                () -> theatre.wearerOf(player), () -> model.wearerOf(player));
            case 7 -> same(where + " isOn(" + player + ")",
                () -> theatre.isOn(player), () -> model.isOn(player));
            case 8 -> same(where + " points(" + guesser + ")",
                () -> theatre.points(guesser), () -> model.points(guesser));
            case 9 -> same(where + " purse()", theatre::purse, model::purse);
            case 10 -> same(where + " cues()", theatre::cues, model::cues);
            default -> same(where + " plays()", theatre::plays, model::plays);
        }
    }

    private void same(String call, Callable<?> got, Callable<?> want) {
        if (calls < CALLS) {
            calls++;
            CHECK.due(call, Check.outcome(got), Check.outcome(want));
        }
    }
}
