/** Promises 7 to 13: each sentence on cues that names a boundary case. */
public final class CueEdgesTest {
    private static final int ENTER = Clockmask.ENTER;
    private static final int EXIT = Clockmask.EXIT;
    private static final int WEAR = Clockmask.WEAR;
    private static final int DOFF = Clockmask.DOFF;
    private static final int SWAP = Clockmask.SWAP;
    private static final int NONE = Clockmask.NONE;
    private static final Class<IndexOutOfBoundsException> NO_SUCH = IndexOutOfBoundsException.class;
    private static final Class<IllegalArgumentException> ARGUMENT = IllegalArgumentException.class;
    private static final Class<IllegalStateException> STATE = IllegalStateException.class;

    private static final Check CHECK = new Check("CueEdgesTest");

    public static void main(String[] args) {
        aPlayHasTwentyFourCuesAtMost();
        theTwentyFourthCueCanBeOfEachKind();
        calledAndMissedCuesKeepTheirPlace();
        thePlayersOfASwapAreTwo();
        noCueWaitsForAMissedOne();
        addCueThrowsTheFirstThatIsNamed();
        aRefusedCueIsNotAdded();
        enterIsForOneOffStageAndDressed();
        exitIsForOneOnStage();
        wearIsForABareFaceAndAFreeMask();
        doffIsForAMask();
        swapIsForTwoOnStageWithAMask();
        eachWearsThenWhatTheOtherDid();
        aCalledOrMissedCueIsNotCalled();
        theCueWaitedForIsCalled();
        bothMustHold();
        callCountsThoseOfThePlay();
        aRefusedCallLeavesAllAsItWas();
        CHECK.end();
    }

    private static void aPlayHasTwentyFourCuesAtMost() {
        CHECK.sentence("IllegalStateException if there are 24 cues");
        Clockmask x = new Clockmask();
        for (int cue = 0; cue < 24; cue++) {
            CHECK.due("cues() before", x.cues(), cue);
            CHECK.due("addCue", x.addCue(ENTER, 0, 0, NONE), cue);
        }
        CHECK.due("cues()", x.cues(), 24);
        for (int kind = ENTER; kind <= SWAP; kind++) {
            int k = kind;
            CHECK.refused(x, "addCue of kind " + k + ", the 25th", STATE, () -> x.addCue(k, 0, 1, NONE));
            CHECK.refused(x, "addCue that waits, the 25th", STATE, () -> x.addCue(k, 0, 1, 0));
        }
        CHECK.due("miss(23)", x.miss(23), 1);
        CHECK.due("cues() then", x.cues(), 24);
    }

    private static void theTwentyFourthCueCanBeOfEachKind() {
        CHECK.sentence("Returns its number");
        for (int kind = ENTER; kind <= SWAP; kind++) {
            Clockmask x = Scenes.chain(23);
            CHECK.due("addCue of kind " + kind + ", the 24th", x.addCue(kind, 5, 4, 22), 23);
            CHECK.due("stateOf(23)", x.stateOf(23), Clockmask.WAITING);
            Clockmask y = new Clockmask();
            CHECK.due("addCue of kind " + kind + ", the first", y.addCue(kind, 5, 4, NONE), 0);
            CHECK.due("stateOf(0)", y.stateOf(0), Clockmask.WAITING);
        }
    }

    private static void calledAndMissedCuesKeepTheirPlace() {
        CHECK.sentence("Returns how many cues the play has");
        Clockmask x = new Clockmask();
        Scenes.callAll(x, 12);
        CHECK.due("cues(), all called", x.cues(), 12);
        Scenes.missAll(x, 12);
        CHECK.due("cues(), called and missed", x.cues(), 24);
        CHECK.refused(x, "addCue, none waits any more", STATE, () -> x.addCue(DOFF, 0, 0, NONE));
        x.endPlay();
        CHECK.due("cues() of the next play", x.cues(), 0);
        CHECK.due("addCue in the next play", x.addCue(DOFF, 0, 0, NONE), 0);
        CHECK.due("stateOf(0), where one was called before", x.stateOf(0), Clockmask.WAITING);
    }

    private static void thePlayersOfASwapAreTwo() {
        CHECK.sentence("IllegalStateException if .. the players of a SWAP are the same");
        for (int player = 0; player < 6; player++) {
            int p = player;
            Clockmask x = new Clockmask();
            CHECK.refused(x, "addCue(SWAP, " + p + ", " + p + ", -1)", STATE, () -> x.addCue(SWAP, p, p, NONE));
            for (int kind = ENTER; kind <= DOFF; kind++) {
                CHECK.due("addCue(" + kind + ", p, p, -1)", x.addCue(kind, p, p, NONE), kind);
            }
            for (int other = 0; other < 6; other++) {
                if (other != p) {
                    int next = x.cues();
                    CHECK.due("addCue(SWAP, p, " + other + ", -1)", x.addCue(SWAP, p, other, NONE), next);
                }
            }
        }
    }

    private static void noCueWaitsForAMissedOne() {
        CHECK.sentence("IllegalStateException if .. the cue for which to wait was missed");
        Clockmask x = new Clockmask();
        x.addCue(DOFF, 0, 0, NONE);
        x.addCue(DOFF, 0, 0, 0);
        x.addCue(WEAR, 0, 0, NONE);
        CHECK.due("addCue that waits for a WAITING one", x.addCue(DOFF, 1, 0, 2), 3);
        x.miss(0);
        x.call(2);
        for (int kind = ENTER; kind <= SWAP; kind++) {
            int k = kind;
            CHECK.refused(x, "addCue that waits for the missed 0", STATE, () -> x.addCue(k, 0, 1, 0));
            CHECK.refused(x, "addCue that waits for 1, missed with it", STATE, () -> x.addCue(k, 0, 1, 1));
        }
        CHECK.due("addCue that waits for a CALLED one", x.addCue(DOFF, 0, 0, 2), 4);
        CHECK.due("addCue that waits for none", x.addCue(DOFF, 0, 0, NONE), 5);
        CHECK.due("canCall(4)", x.canCall(4), true);
    }

    private static void addCueThrowsTheFirstThatIsNamed() {
        CHECK.sentence("If several exceptions apply to a call, the one that its throws clause names first is thrown");
        Clockmask x = new Clockmask();
        x.addCue(DOFF, 0, 0, NONE);
        x.miss(0);
        theFirstThatIsNamed(x);
        while (x.cues() < 24) {
            x.addCue(DOFF, 0, 0, NONE);
        }
        theFirstThatIsNamed(x);
        CHECK.refused(x, "addCue(SWAP, 1, 1, 0), full, same, missed", STATE, () -> x.addCue(SWAP, 1, 1, 0));
    }

    private static void theFirstThatIsNamed(Clockmask x) {
        for (int kind : new int[] {-1, 5}) {
            CHECK.refused(x, "no kind", ARGUMENT, () -> x.addCue(kind, 0, 0, NONE));
            CHECK.refused(x, "no kind, no player", ARGUMENT, () -> x.addCue(kind, 6, 0, NONE));
            CHECK.refused(x, "no kind, no mask or player b", ARGUMENT, () -> x.addCue(kind, 0, 6, NONE));
            CHECK.refused(x, "no kind, no cue", ARGUMENT, () -> x.addCue(kind, 0, 0, -2));
            CHECK.refused(x, "no kind, missed", ARGUMENT, () -> x.addCue(kind, 0, 0, 0));
            CHECK.refused(x, "no kind, nothing there, missed", ARGUMENT, () -> x.addCue(kind, -1, -1, 0));
        }
        for (int kind = ENTER; kind <= SWAP; kind++) {
            int k = kind;
            CHECK.refused(x, "no player, missed", NO_SUCH, () -> x.addCue(k, 6, 0, 0));
            CHECK.refused(x, "no player, missed", NO_SUCH, () -> x.addCue(k, -1, 0, 0));
            CHECK.refused(x, "no cue", NO_SUCH, () -> x.addCue(k, 0, 1, x.cues()));
            CHECK.refused(x, "no cue", NO_SUCH, () -> x.addCue(k, 0, 1, -2));
        }
        CHECK.refused(x, "no mask, missed", NO_SUCH, () -> x.addCue(WEAR, 0, 6, 0));
        CHECK.refused(x, "no mask, missed", NO_SUCH, () -> x.addCue(WEAR, 0, -1, 0));
        CHECK.refused(x, "no player b, missed", NO_SUCH, () -> x.addCue(SWAP, 0, 6, 0));
        CHECK.refused(x, "no player a and b, the same", NO_SUCH, () -> x.addCue(SWAP, 6, 6, NONE));
        CHECK.refused(x, "no player a and b, the same", NO_SUCH, () -> x.addCue(SWAP, -1, -1, NONE));
        CHECK.refused(x, "no cue, the players the same", NO_SUCH, () -> x.addCue(SWAP, 1, 1, x.cues()));
        CHECK.refused(x, "no cue, the players the same", NO_SUCH, () -> x.addCue(SWAP, 1, 1, -2));
        CHECK.refused(x, "missed, the players the same", STATE, () -> x.addCue(SWAP, 1, 1, 0));
    }

    private static void aRefusedCueIsNotAdded() {
        CHECK.sentence("a call that throws changes nothing");
        Clockmask x = new Clockmask();
        x.addCue(WEAR, 2, 3, NONE);
        CHECK.refused(x, "addCue(SWAP, 4, 4, 0)", STATE, () -> x.addCue(SWAP, 4, 4, 0));
        CHECK.refused(x, "addCue(WEAR, 4, 6, 0)", NO_SUCH, () -> x.addCue(WEAR, 4, 6, 0));
        CHECK.due("addCue", x.addCue(DOFF, 2, 0, 0), 1);
        CHECK.due("run()", x.run(), 2);
        Clockmask y = Scenes.chain(24);
        CHECK.refused(y, "addCue(ENTER, 5, 5, 3), the 25th", STATE, () -> y.addCue(ENTER, 5, 5, 3));
        CHECK.due("run()", y.run(), 24);
        CHECK.due("isOn(5)", y.isOn(5), false);
    }

    private static void enterIsForOneOffStageAndDressed() {
        CHECK.sentence("ENTER a: the player a is off stage and dressed; it is on stage then");
        for (int player = 0; player < 6; player++) {
            Clockmask x = new Clockmask();
            int first = x.addCue(ENTER, player, 0, NONE);
            int second = x.addCue(ENTER, player, 0, NONE);
            for (int other = 0; other < 6; other++) {
                if (other != player) {
                    x.dress(other, other);
                }
            }
            callable(x, first, false);
            x.dress(player, player);
            callable(x, second, true);
            onlyOn(x, player);
            callable(x, first, false);
            Scenes.called(x, EXIT, player, 0);
            callable(x, first, true);
        }
    }

    private static void exitIsForOneOnStage() {
        CHECK.sentence("EXIT a: it is on stage; it is off stage then");
        for (int player = 0; player < 6; player++) {
            Clockmask x = new Clockmask();
            x.dress(player, player + 2);
            int first = x.addCue(EXIT, player, 0, NONE);
            int second = x.addCue(EXIT, player, 0, NONE);
            callable(x, first, false);
            Scenes.called(x, WEAR, player, 0);
            callable(x, first, false);
            Scenes.called(x, ENTER, player, 0);
            callable(x, second, true);
            onlyOn(x, -1);
            callable(x, first, false);
            CHECK.due("maskOf, on after the exit", x.maskOf(player), 0);
            CHECK.due("wear", x.wear(player + 2), 1);
        }
    }

    private static void wearIsForABareFaceAndAFreeMask() {
        CHECK.sentence("WEAR a, m: the player a wears no mask, and nobody wears the mask m");
        for (int mask = 0; mask < 6; mask++) {
            for (int player = 0; player < 6; player++) {
                Clockmask x = new Clockmask();
                int other = (player + 1) % 6;
                int free = (mask + 1) % 6;
                int wanted = x.addCue(WEAR, player, mask, NONE);
                int again = x.addCue(WEAR, player, mask, NONE);
                int another = x.addCue(WEAR, player, free, NONE);
                Scenes.called(x, WEAR, other, mask);
                callable(x, wanted, false);
                Scenes.called(x, DOFF, other, 0);
                callable(x, wanted, true);
                CHECK.due("maskOf", x.maskOf(player), mask);
                CHECK.due("wearerOf", x.wearerOf(mask), player);
                callable(x, again, false);
                callable(x, another, false);
                Scenes.called(x, DOFF, player, 0);
                callable(x, another, true);
                CHECK.due("wearerOf, doffed", x.wearerOf(mask), NONE);
            }
        }
        CHECK.sentence("a mask is worn by one player at the most");
        Clockmask y = Scenes.allOnStage();
        for (int mask = 0; mask < 6; mask++) {
            callable(y, y.addCue(WEAR, mask, mask, NONE), false);
        }
    }

    private static void doffIsForAMask() {
        CHECK.sentence("DOFF a: it wears a mask; it wears none then");
        for (int player = 0; player < 6; player++) {
            for (int mask : new int[] {0, 5}) {
                Clockmask x = new Clockmask();
                int first = x.addCue(DOFF, player, 0, NONE);
                int second = x.addCue(DOFF, player, 0, NONE);
                Scenes.called(x, WEAR, (player + 1) % 6, 1);
                callable(x, first, false);
                Scenes.called(x, WEAR, player, mask);
                callable(x, second, true);
                CHECK.due("maskOf", x.maskOf(player), NONE);
                CHECK.due("maskOf the other", x.maskOf((player + 1) % 6), 1);
                callable(x, first, false);
            }
        }
    }

    private static void swapIsForTwoOnStageWithAMask() {
        CHECK.sentence("SWAP a, b: both are on stage, and at least one of them wears a mask");
        int[][] pairs = {{0, 1}, {1, 0}, {0, 5}, {5, 0}, {2, 4}, {3, 2}};
        for (int[] pair : pairs) {
            for (int bits = 0; bits < 16; bits++) {
                Clockmask x = new Clockmask();
                prepare(x, pair[0], (bits & 1) != 0, (bits & 2) != 0 ? 0 : NONE);
                prepare(x, pair[1], (bits & 4) != 0, (bits & 8) != 0 ? 5 : NONE);
                boolean bothOn = (bits & 5) == 5;
                boolean masked = (bits & 10) != 0;
                callable(x, x.addCue(SWAP, pair[0], pair[1], NONE), bothOn && masked);
            }
        }
    }

    private static void prepare(Clockmask x, int player, boolean on, int mask) {
        x.dress(player, player + 1);
        if (on) {
            Scenes.called(x, ENTER, player, 0);
        }
        if (mask != NONE) {
            Scenes.called(x, WEAR, player, mask);
        }
    }

    private static void eachWearsThenWhatTheOtherDid() {
        CHECK.sentence("each wears then what the other one did");
        int[][] masks = {{0, NONE}, {NONE, 0}, {5, 0}, {NONE, 5}, {3, 4}};
        for (int[] mask : masks) {
            Clockmask x = new Clockmask();
            prepare(x, 0, true, mask[0]);
            prepare(x, 5, true, mask[1]);
            Scenes.called(x, SWAP, 0, 5);
            wears(x, 0, mask[1]);
            wears(x, 5, mask[0]);
            Scenes.called(x, SWAP, 0, 5);
            wears(x, 0, mask[0]);
            wears(x, 5, mask[1]);
            Scenes.called(x, SWAP, 5, 0);
            wears(x, 0, mask[1]);
            wears(x, 5, mask[0]);
        }
    }

    private static void wears(Clockmask x, int player, int mask) {
        CHECK.due("maskOf(" + player + ")", x.maskOf(player), mask);
        CHECK.due("maskByCues(" + player + ")", x.maskByCues(player), mask);
        if (mask != NONE) {
            CHECK.due("wearerOf(" + mask + ")", x.wearerOf(mask), player);
        }
    }

    private static void aCalledOrMissedCueIsNotCalled() {
        CHECK.sentence("A cue can be called if it is WAITING");
        Clockmask x = new Clockmask();
        int waiting = x.addCue(WEAR, 0, 0, NONE);
        int called = x.addCue(WEAR, 0, 0, NONE);
        int missed = x.addCue(WEAR, 0, 0, NONE);
        x.call(called);
        x.miss(missed);
        Scenes.called(x, DOFF, 0, 0);
        // All three could be done now.
        callable(x, called, false);
        callable(x, missed, false);
        CHECK.due("stateOf the missed one", x.stateOf(missed), Clockmask.MISSED);
        callable(x, waiting, true);
        CHECK.due("stateOf then", x.stateOf(waiting), Clockmask.CALLED);
    }

    private static void theCueWaitedForIsCalled() {
        CHECK.sentence("the cue for which it waits, if there is one, is CALLED");
        Clockmask x = new Clockmask();
        int first = x.addCue(WEAR, 0, 0, NONE);
        int follower = x.addCue(WEAR, 1, 1, first);
        int lost = x.addCue(WEAR, 2, 2, NONE);
        int lostToo = x.addCue(WEAR, 3, 3, lost);
        callable(x, follower, false);
        callable(x, lostToo, false);
        x.miss(lost);
        callable(x, lostToo, false);
        callable(x, first, true);
        callable(x, follower, true);
        int late = x.addCue(WEAR, 4, 4, first);
        callable(x, late, true);
        callable(x, x.addCue(DOFF, 4, 0, late), true);
        CHECK.due("stateOf(0), called before", x.stateOf(0), Clockmask.CALLED);
    }

    private static void bothMustHold() {
        CHECK.sentence("and it can be done; it is done by that");
        Clockmask x = new Clockmask();
        int first = x.addCue(WEAR, 0, 0, NONE);
        int follower = x.addCue(ENTER, 1, 0, first);
        x.dress(1, 1);
        callable(x, follower, false);
        callable(x, first, true);
        Clockmask y = new Clockmask();
        y.addCue(WEAR, 0, 0, NONE);
        y.addCue(ENTER, 1, 0, 0);
        callable(y, 0, true);
        callable(y, 1, false);
        y.dress(1, 1);
        callable(y, 1, true);
        CHECK.due("isOn(1)", y.isOn(1), true);
    }

    private static void callCountsThoseOfThePlay() {
        CHECK.sentence("Returns how many cues of the play were called then");
        Clockmask x = Scenes.chain(24);
        for (int cue = 0; cue < 24; cue++) {
            CHECK.due("call(" + cue + ")", x.call(cue), cue + 1);
        }
        x.endPlay();
        Scenes.missAll(x, 10);
        CHECK.due("call after 10 missed, the next play", Scenes.called(x, WEAR, 5, 5), 1);
        x.addCue(DOFF, 5, 0, NONE);
        x.addCue(WEAR, 5, 0, NONE);
        CHECK.due("run()", x.run(), 2);
        CHECK.due("call after a run", Scenes.called(x, WEAR, 0, 1), 4);
    }

    private static void aRefusedCallLeavesAllAsItWas() {
        CHECK.sentence("a call that throws changes nothing");
        Clockmask x = Scenes.full();
        for (int cue = 0; cue < 24; cue++) {
            int c = cue;
            CHECK.due("canCall(" + c + ")", x.canCall(c), c == 16);
            if (c != 16) {
                CHECK.refused(x, "call(" + c + ")", STATE, () -> x.call(c));
            }
            if (c < 16) {
                CHECK.refused(x, "miss(" + c + ")", STATE, () -> x.miss(c));
            }
        }
        CHECK.due("call(16)", x.call(16), 13);
        CHECK.due("run()", x.run(), 1);
        CHECK.due("miss(23)", x.miss(23), 1);
    }

    /** Whether the cue can be called, as canCall tells and as call does. */
    private static void callable(Clockmask x, int cue, boolean want) {
        CHECK.due("canCall(" + cue + ")", x.canCall(cue), want);
        if (want) {
            int called = Scenes.states(x).replaceAll("[02]", "").length();
            CHECK.due("call(" + cue + ")", Check.outcome(() -> x.call(cue)), String.valueOf(called + 1));
            CHECK.due("stateOf(" + cue + ")", x.stateOf(cue), Clockmask.CALLED);
        } else {
            CHECK.refused(x, "call(" + cue + ")", STATE, () -> x.call(cue));
        }
    }

    private static void onlyOn(Clockmask x, int player) {
        for (int other = 0; other < 6; other++) {
            CHECK.due("isOn(" + other + ")", x.isOn(other), other == player);
        }
    }
}
