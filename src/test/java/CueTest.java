/** Promises 7 to 13: addCue, canCall, call, run, miss, stateOf, cues. */
public final class CueTest {
    private static final int ENTER = Clockmask.ENTER;
    private static final int EXIT = Clockmask.EXIT;
    private static final int WEAR = Clockmask.WEAR;
    private static final int DOFF = Clockmask.DOFF;
    private static final int SWAP = Clockmask.SWAP;
    private static final Class<IndexOutOfBoundsException> NO_SUCH = IndexOutOfBoundsException.class;
    private static final Class<IllegalArgumentException> ARGUMENT = IllegalArgumentException.class;
    private static final Class<IllegalStateException> STATE = IllegalStateException.class;
    private static final int[] NO_SIX = {-1, 6, 7, Integer.MIN_VALUE, Integer.MAX_VALUE};
    private static final int[] NO_KINDS = {-1, 5, 6, Integer.MIN_VALUE, Integer.MAX_VALUE};

    private static final Check CHECK = new Check("CueTest");

    public static void main(String[] args) {
        cuesAreNumberedFromZero();
        otherMattersForWearAndSwapAlone();
        addingIsRefused();
        addingRefusesTheFirstReasonNamed();
        noMoreThanTwentyFourCues();
        enterNeedsAPlayerOffStageAndDressed();
        exitNeedsAPlayerOnStage();
        wearNeedsABareFaceAndAFreeMask();
        doffNeedsAMask();
        swapNeedsBothOnStageAndAMask();
        aCueWaitsUntilAnotherIsCalled();
        callTellsHowManyWereCalled();
        callingIsRefused();
        runTakesTheLowestNumberEachTime();
        runGoesBackToLowerNumbers();
        runCallsAFullPlay();
        missTakesThoseWithItThatWait();
        missLeavesTheOthers();
        missingIsRefused();
        cuesAskedForMustBe();
        CHECK.end();
    }

    private static void cuesAreNumberedFromZero() {
        Clockmask x = new Clockmask();
        for (int kind = ENTER; kind <= SWAP; kind++) {
            CHECK.due("addCue of kind " + kind, x.addCue(kind, 5, 0, kind - 1), kind);
            CHECK.due("cues()", x.cues(), kind + 1);
            CHECK.due("stateOf", x.stateOf(kind), Clockmask.WAITING);
        }
    }

    private static void otherMattersForWearAndSwapAlone() {
        Clockmask x = new Clockmask();
        int[] others = {-1, 6, 3, Integer.MIN_VALUE, Integer.MAX_VALUE};
        int number = 0;
        for (int other : others) {
            CHECK.due("addCue(ENTER, 3, " + other + ", -1)", x.addCue(ENTER, 3, other, -1), number++);
            CHECK.due("addCue(EXIT, 3, " + other + ", -1)", x.addCue(EXIT, 3, other, -1), number++);
            CHECK.due("addCue(DOFF, 3, " + other + ", -1)", x.addCue(DOFF, 3, other, -1), number++);
        }
        CHECK.due("addCue(WEAR, 3, 3, -1)", x.addCue(WEAR, 3, 3, -1), number);
        x.dress(3, 3);
        // Three times on and off until the costume is torn, the mask on and off.
        CHECK.due("run()", x.run(), 8);
    }

    private static void addingIsRefused() {
        Clockmask x = new Clockmask();
        x.addCue(DOFF, 0, 0, -1);
        x.addCue(DOFF, 0, 0, 0);
        x.miss(1);
        for (int kind : NO_KINDS) {
            CHECK.refused(x, "addCue of kind " + kind, ARGUMENT, () -> x.addCue(kind, 0, 0, -1));
        }
        for (int player : NO_SIX) {
            for (int kind = ENTER; kind <= SWAP; kind++) {
                int k = kind;
                CHECK.refused(x, "addCue of player " + player, NO_SUCH, () -> x.addCue(k, player, 0, -1));
            }
            CHECK.refused(x, "addCue of mask " + player, NO_SUCH, () -> x.addCue(WEAR, 0, player, -1));
            CHECK.refused(x, "addCue of player b " + player, NO_SUCH, () -> x.addCue(SWAP, 0, player, -1));
        }
        for (int waits : new int[] {-2, 2, 3, 24, Integer.MIN_VALUE, Integer.MAX_VALUE}) {
            CHECK.refused(x, "addCue that waits for " + waits, NO_SUCH, () -> x.addCue(ENTER, 0, 0, waits));
        }
        CHECK.refused(x, "addCue(SWAP, 2, 2, -1)", STATE, () -> x.addCue(SWAP, 2, 2, -1));
        CHECK.refused(x, "addCue that waits for a missed one", STATE, () -> x.addCue(ENTER, 0, 0, 1));
        CHECK.due("addCue that waits for a waiting one", x.addCue(ENTER, 0, 0, 0), 2);
        CHECK.due("addCue(WEAR, 2, 2, -1)", x.addCue(WEAR, 2, 2, -1), 3);
        x.call(3);
        CHECK.due("addCue that waits for a called one", x.addCue(DOFF, 2, 0, 3), 4);
        CHECK.due("run()", x.run(), 1);
    }

    private static void addingRefusesTheFirstReasonNamed() {
        Clockmask x = new Clockmask();
        CHECK.refused(x, "addCue(5, 6, 6, 6)", ARGUMENT, () -> x.addCue(5, 6, 6, 6));
        CHECK.refused(x, "addCue(SWAP, 0, 0, 0)", NO_SUCH, () -> x.addCue(SWAP, 0, 0, 0));
        CHECK.refused(x, "addCue(SWAP, 6, 6, -1)", NO_SUCH, () -> x.addCue(SWAP, 6, 6, -1));
        x.addCue(DOFF, 0, 0, -1);
        x.miss(0);
        CHECK.refused(x, "addCue(WEAR, 0, 6, 0)", NO_SUCH, () -> x.addCue(WEAR, 0, 6, 0));
        CHECK.refused(x, "addCue(-1, 0, 0, 0)", ARGUMENT, () -> x.addCue(-1, 0, 0, 0));
        while (x.cues() < 24) {
            x.addCue(DOFF, 0, 0, -1);
        }
        CHECK.refused(x, "addCue(5, 0, 0, -1) when full", ARGUMENT, () -> x.addCue(5, 0, 0, -1));
        CHECK.refused(x, "addCue(ENTER, 6, 0, -1) when full", NO_SUCH, () -> x.addCue(ENTER, 6, 0, -1));
        CHECK.refused(x, "addCue(WEAR, 0, 6, -1) when full", NO_SUCH, () -> x.addCue(WEAR, 0, 6, -1));
        CHECK.refused(x, "addCue(ENTER, 0, 0, 24) when full", NO_SUCH, () -> x.addCue(ENTER, 0, 0, 24));
    }

    private static void noMoreThanTwentyFourCues() {
        Clockmask x = new Clockmask();
        for (int cue = 0; cue < 24; cue++) {
            CHECK.due("addCue", x.addCue(DOFF, 0, 0, cue - 1), cue);
        }
        CHECK.refused(x, "addCue, the 25th", STATE, () -> x.addCue(DOFF, 0, 0, -1));
        CHECK.refused(x, "addCue, the 25th, that waits", STATE, () -> x.addCue(DOFF, 0, 0, 23));
        CHECK.due("cues()", x.cues(), 24);
        CHECK.due("miss(0)", x.miss(0), 24);
        CHECK.due("cues() with missed ones", x.cues(), 24);
        x.endPlay();
        CHECK.due("cues() of the next play", x.cues(), 0);
        CHECK.due("addCue in the next play", x.addCue(DOFF, 0, 0, -1), 0);
    }

    private static void enterNeedsAPlayerOffStageAndDressed() {
        Clockmask x = new Clockmask();
        x.addCue(ENTER, 1, 0, -1);
        x.addCue(ENTER, 1, 0, -1);
        CHECK.due("canCall, not dressed", x.canCall(0), false);
        CHECK.refused(x, "call, not dressed", STATE, () -> x.call(0));
        x.dress(1, 1);
        CHECK.due("canCall, dressed", x.canCall(0), true);
        CHECK.due("call", x.call(0), 1);
        CHECK.due("isOn(1)", x.isOn(1), true);
        CHECK.due("isOn(0)", x.isOn(0), false);
        CHECK.due("canCall, called", x.canCall(0), false);
        CHECK.due("canCall, on stage", x.canCall(1), false);
        CHECK.refused(x, "call, on stage", STATE, () -> x.call(1));
    }

    private static void exitNeedsAPlayerOnStage() {
        Clockmask x = new Clockmask();
        x.dress(1, 1);
        x.addCue(EXIT, 1, 0, -1);
        x.addCue(ENTER, 1, 0, -1);
        CHECK.due("canCall, off stage", x.canCall(0), false);
        CHECK.refused(x, "call, off stage", STATE, () -> x.call(0));
        x.call(1);
        CHECK.due("canCall, on stage", x.canCall(0), true);
        CHECK.due("call", x.call(0), 2);
        CHECK.due("isOn(1)", x.isOn(1), false);
        CHECK.due("wear(1)", x.wear(1), 1);
        CHECK.due("costumeOf(1)", x.costumeOf(1), 1);
    }

    private static void wearNeedsABareFaceAndAFreeMask() {
        Clockmask x = new Clockmask();
        x.addCue(WEAR, 1, 2, -1);
        x.addCue(WEAR, 1, 3, -1);
        x.addCue(WEAR, 4, 2, -1);
        x.addCue(WEAR, 4, 3, -1);
        CHECK.due("canCall, undressed and off stage", x.canCall(0), true);
        CHECK.due("call", x.call(0), 1);
        CHECK.due("maskOf(1)", x.maskOf(1), 2);
        CHECK.due("canCall, has a mask", x.canCall(1), false);
        CHECK.due("canCall, the mask is worn", x.canCall(2), false);
        CHECK.due("canCall, the mask is free", x.canCall(3), true);
        CHECK.refused(x, "call, has a mask", STATE, () -> x.call(1));
        CHECK.refused(x, "call, the mask is worn", STATE, () -> x.call(2));
    }

    private static void doffNeedsAMask() {
        Clockmask x = new Clockmask();
        x.addCue(DOFF, 1, 0, -1);
        x.addCue(WEAR, 1, 0, -1);
        x.addCue(WEAR, 2, 1, -1);
        CHECK.due("canCall, no mask", x.canCall(0), false);
        CHECK.refused(x, "call, no mask", STATE, () -> x.call(0));
        x.call(2);
        CHECK.due("canCall, another's mask", x.canCall(0), false);
        x.call(1);
        CHECK.due("canCall, a mask", x.canCall(0), true);
        CHECK.due("call", x.call(0), 3);
        CHECK.due("maskOf(1)", x.maskOf(1), -1);
        CHECK.due("maskOf(2)", x.maskOf(2), 1);
    }

    private static void swapNeedsBothOnStageAndAMask() {
        Clockmask x = new Clockmask();
        x.dress(0, 0);
        x.dress(1, 1);
        int there = x.addCue(SWAP, 0, 1, -1);
        int back = x.addCue(SWAP, 0, 1, -1);
        int mask = x.addCue(WEAR, 0, 5, -1);
        int first = x.addCue(ENTER, 0, 0, -1);
        int second = x.addCue(ENTER, 1, 0, -1);
        CHECK.due("canCall, none on stage", x.canCall(there), false);
        x.call(first);
        x.call(mask);
        CHECK.due("canCall, b off stage", x.canCall(there), false);
        CHECK.refused(x, "call, b off stage", STATE, () -> x.call(there));
        int turned = x.addCue(SWAP, 1, 0, -1);
        CHECK.due("canCall, a off stage", x.canCall(turned), false);
        x.call(second);
        CHECK.due("canCall, a has a mask", x.canCall(there), true);
        CHECK.due("call", x.call(there), 4);
        CHECK.due("maskOf(0)", x.maskOf(0), -1);
        CHECK.due("maskOf(1)", x.maskOf(1), 5);
        CHECK.due("canCall, b has a mask", x.canCall(back), true);
        x.call(x.addCue(WEAR, 0, 4, -1));
        CHECK.due("call, both have masks", x.call(back), 6);
        CHECK.due("maskOf(0)", x.maskOf(0), 5);
        CHECK.due("maskOf(1)", x.maskOf(1), 4);
        x.call(x.addCue(DOFF, 0, 0, -1));
        x.call(x.addCue(DOFF, 1, 0, -1));
        CHECK.due("canCall, no mask", x.canCall(turned), false);
        CHECK.refused(x, "call, no mask", STATE, () -> x.call(turned));
    }

    private static void aCueWaitsUntilAnotherIsCalled() {
        Clockmask x = new Clockmask();
        x.addCue(WEAR, 0, 0, -1);
        x.addCue(WEAR, 1, 1, 0);
        x.addCue(WEAR, 2, 2, 1);
        CHECK.due("canCall(1), 0 waits", x.canCall(1), false);
        CHECK.refused(x, "call(1), 0 waits", STATE, () -> x.call(1));
        x.call(0);
        CHECK.due("canCall(1), 0 called", x.canCall(1), true);
        CHECK.due("canCall(2), 1 waits", x.canCall(2), false);
        x.call(1);
        CHECK.due("canCall(2), 1 called", x.canCall(2), true);
        CHECK.due("call(2)", x.call(2), 3);
    }

    private static void callTellsHowManyWereCalled() {
        Clockmask x = new Clockmask();
        for (int cue = 0; cue < 6; cue++) {
            x.addCue(WEAR, cue, cue, -1);
        }
        x.miss(2);
        CHECK.due("call(5)", x.call(5), 1);
        CHECK.due("stateOf(5)", x.stateOf(5), Clockmask.CALLED);
        CHECK.due("call(0)", x.call(0), 2);
        x.miss(1);
        CHECK.due("call(4)", x.call(4), 3);
        x.call(3);
        x.endPlay();
        x.addCue(WEAR, 0, 0, -1);
        CHECK.due("call(0) in the next play", x.call(0), 1);
    }

    private static void callingIsRefused() {
        Clockmask x = new Clockmask();
        CHECK.refused(x, "call(0) without cues", NO_SUCH, () -> x.call(0));
        x.addCue(WEAR, 0, 0, -1);
        x.addCue(WEAR, 1, 1, -1);
        for (int cue : new int[] {-1, 2, 24, Integer.MIN_VALUE, Integer.MAX_VALUE}) {
            CHECK.refused(x, "call(" + cue + ")", NO_SUCH, () -> x.call(cue));
        }
        x.call(0);
        CHECK.refused(x, "call(0) again", STATE, () -> x.call(0));
        x.miss(1);
        CHECK.refused(x, "call(1) that was missed", STATE, () -> x.call(1));
        CHECK.due("canCall(1) that was missed", x.canCall(1), false);
        x.endPlay();
        CHECK.refused(x, "call(0) of the play before", NO_SUCH, () -> x.call(0));
    }

    private static void runTakesTheLowestNumberEachTime() {
        Clockmask x = new Clockmask();
        x.addCue(WEAR, 0, 3, -1);
        x.addCue(WEAR, 1, 3, -1);
        x.addCue(WEAR, 0, 2, -1);
        CHECK.due("run()", x.run(), 1);
        CHECK.due("maskOf(0)", x.maskOf(0), 3);
        CHECK.due("stateOf(1)", x.stateOf(1), Clockmask.WAITING);
        CHECK.due("stateOf(2)", x.stateOf(2), Clockmask.WAITING);
        CHECK.due("run() again", x.run(), 0);
    }

    private static void runGoesBackToLowerNumbers() {
        Clockmask x = new Clockmask();
        x.addCue(DOFF, 0, 0, -1);
        x.addCue(WEAR, 1, 3, -1);
        x.addCue(WEAR, 0, 3, -1);
        x.addCue(DOFF, 1, 0, -1);
        x.addCue(WEAR, 2, 3, -1);
        x.addCue(WEAR, 1, 4, -1);
        x.addCue(WEAR, 0, 4, -1);
        x.addCue(WEAR, 5, 0, -1);
        x.call(7);
        // 1 W(1,3), 3 D(1), 2 W(0,3), 0 D(0), 4 W(2,3), 5 W(1,4)
        CHECK.due("run()", x.run(), 6);
        CHECK.due("maskOf(0)", x.maskOf(0), -1);
        CHECK.due("maskOf(1)", x.maskOf(1), 4);
        CHECK.due("maskOf(2)", x.maskOf(2), 3);
        CHECK.due("stateOf(6)", x.stateOf(6), Clockmask.WAITING);
    }

    private static void runCallsAFullPlay() {
        Clockmask x = new Clockmask();
        for (int cue = 0; cue < 24; cue += 2) {
            x.addCue(DOFF, 0, 0, -1);
            x.addCue(WEAR, 0, 0, -1);
        }
        CHECK.due("run()", x.run(), 24);
        CHECK.due("maskOf(0)", x.maskOf(0), -1);
        CHECK.due("maskByCues(0)", x.maskByCues(0), -1);
        CHECK.due("endPlay()", x.endPlay(), 34);
    }

    private static void missTakesThoseWithItThatWait() {
        Clockmask x = new Clockmask();
        x.addCue(WEAR, 0, 0, -1);
        x.addCue(DOFF, 0, 0, 0);
        x.addCue(WEAR, 1, 1, 0);
        x.addCue(DOFF, 1, 0, 1);
        x.addCue(DOFF, 1, 0, 3);
        x.addCue(WEAR, 2, 2, 2);
        CHECK.due("miss(1)", x.miss(1), 3);
        CHECK.due("states", Scenes.states(x), "020220");
        CHECK.due("miss(0)", x.miss(0), 3);
        CHECK.due("states", Scenes.states(x), "222222");
    }

    private static void missLeavesTheOthers() {
        Clockmask x = new Clockmask();
        x.addCue(WEAR, 0, 0, -1);
        x.addCue(WEAR, 1, 1, 0);
        x.addCue(DOFF, 1, 0, 0);
        x.addCue(DOFF, 0, 0, -1);
        x.addCue(WEAR, 5, 5, 1);
        x.run();
        CHECK.due("states", Scenes.states(x), "11111");
        x.addCue(WEAR, 0, 4, 3);
        x.addCue(WEAR, 0, 4, 3);
        CHECK.due("miss(5), nothing waits for it", x.miss(5), 1);
        CHECK.due("states", Scenes.states(x), "1111120");
        CHECK.due("maskOf(5)", x.maskOf(5), 5);
        CHECK.due("run()", x.run(), 1);
    }

    private static void missingIsRefused() {
        Clockmask x = new Clockmask();
        CHECK.refused(x, "miss(0) without cues", NO_SUCH, () -> x.miss(0));
        x.addCue(WEAR, 0, 0, -1);
        x.addCue(WEAR, 1, 1, -1);
        x.addCue(WEAR, 2, 2, 1);
        for (int cue : new int[] {-1, 3, 24, Integer.MIN_VALUE, Integer.MAX_VALUE}) {
            CHECK.refused(x, "miss(" + cue + ")", NO_SUCH, () -> x.miss(cue));
        }
        x.call(0);
        CHECK.refused(x, "miss(0) that was called", STATE, () -> x.miss(0));
        x.miss(1);
        CHECK.refused(x, "miss(1) that was missed", STATE, () -> x.miss(1));
        CHECK.refused(x, "miss(2) that was missed with 1", STATE, () -> x.miss(2));
    }

    private static void cuesAskedForMustBe() {
        Clockmask x = new Clockmask();
        x.addCue(WEAR, 0, 0, -1);
        for (int cue : new int[] {-1, 1, 24, Integer.MIN_VALUE, Integer.MAX_VALUE}) {
            CHECK.refused(x, "canCall(" + cue + ")", NO_SUCH, () -> x.canCall(cue));
            CHECK.refused(x, "stateOf(" + cue + ")", NO_SUCH, () -> x.stateOf(cue));
        }
        x.call(0);
        x.endPlay();
        CHECK.refused(x, "canCall(0) of the play before", NO_SUCH, () -> x.canCall(0));
        CHECK.refused(x, "stateOf(0) of the play before", NO_SUCH, () -> x.stateOf(0));
    }
}
