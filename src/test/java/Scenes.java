/** Theatres as the tests need them, and what they do again and again. */
final class Scenes {
    private Scenes() {
    }

    /** Adds a cue that waits for none and calls it. */
    static int called(Clockmask x, int kind, int player, int other) {
        return x.call(x.addCue(kind, player, other, Clockmask.NONE));
    }

    /** Adds so many cues and misses each; none of them could be called. */
    static void missAll(Clockmask x, int cues) {
        for (int i = 0; i < cues; i++) {
            x.miss(x.addCue(Clockmask.DOFF, 5, 0, Clockmask.NONE));
        }
    }

    /** Calls so many cues, an even number: the player 0 takes a mask and doffs it. */
    static void callAll(Clockmask x, int cues) {
        for (int i = 0; i < cues; i += 2) {
            called(x, Clockmask.WEAR, 0, 0);
            called(x, Clockmask.DOFF, 0, 0);
        }
    }

    /** Dresses the player and lets it enter and exit some times. */
    static void wearOut(Clockmask x, int player, int costume, int exits) {
        x.dress(player, costume);
        for (int i = 0; i < exits; i++) {
            called(x, Clockmask.ENTER, player, 0);
            called(x, Clockmask.EXIT, player, 0);
        }
    }

    /** Ends a play of missed cues alone, so that the purse, at most 24 above, falls to this. */
    static void purseDownTo(Clockmask x, int purse) {
        missAll(x, x.purse() - purse);
        x.endPlay();
    }

    /** Dresses the player in the costume of its size, lets it enter and take the mask. */
    static void masked(Clockmask x, int player, int mask) {
        if (x.costumeOf(player) == Clockmask.NONE) {
            x.dress(player, player + 1);
        }
        called(x, Clockmask.ENTER, player, 0);
        called(x, Clockmask.WEAR, player, mask);
    }

    /** All players on stage, the player p with the mask 5 - p; cues 0 to 11. */
    static Clockmask allOnStage() {
        Clockmask x = new Clockmask();
        for (int player = 0; player < 6; player++) {
            masked(x, player, 5 - player);
        }
        return x;
    }

    /** The same with 24 cues: 0 to 11 are called, 12 to 15 missed, 16 to 23 wait for 16. */
    static Clockmask full() {
        Clockmask x = allOnStage();
        missAll(x, 4);
        x.addCue(Clockmask.EXIT, 0, 0, Clockmask.NONE);
        while (x.cues() < 24) {
            x.addCue(Clockmask.DOFF, 1, 0, 16);
        }
        return x;
    }

    /** A play of so many cues, each of which waits for the one before. */
    static Clockmask chain(int cues) {
        Clockmask x = new Clockmask();
        for (int cue = 0; cue < cues; cue++) {
            x.addCue(cue % 2 == 0 ? Clockmask.WEAR : Clockmask.DOFF, 0, 0, cue - 1);
        }
        return x;
    }

    /** The states of all cues, a figure each. */
    static String states(Clockmask x) {
        StringBuilder text = new StringBuilder();
        for (int cue = 0; cue < x.cues(); cue++) {
            text.append(x.stateOf(cue));
        }
        return text.toString();
    }
}
