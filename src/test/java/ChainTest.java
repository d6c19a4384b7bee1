/** Promises 9 to 12: cues that wait for each other, called, run and missed. */
public final class ChainTest {
    private static final int ENTER = Clockmask.ENTER;
    private static final int EXIT = Clockmask.EXIT;
    private static final int WEAR = Clockmask.WEAR;
    private static final int DOFF = Clockmask.DOFF;
    private static final int SWAP = Clockmask.SWAP;
    private static final int NONE = Clockmask.NONE;
    private static final Class<IndexOutOfBoundsException> NO_SUCH = IndexOutOfBoundsException.class;
    private static final Class<IllegalStateException> STATE = IllegalStateException.class;

    private static final Check CHECK = new Check("ChainTest");

    public static void main(String[] args) {
        aChainIsCalledLinkByLink();
        aChainIsRun();
        aChainIsMissedFromEachLink();
        aStarIsMissed();
        aTreeIsMissedBranchByBranch();
        twoChainsAreMissedApart();
        missedOnesAreCountedOnce();
        calledOnesStayCalled();
        cuesAddedLaterAreMissedToo();
        missIsRefused();
        missDoesNothingElse();
        runCallsNone();
        runCallsOne();
        runTakesTheLowestNumberFirst();
        runBeginsAgainAfterEachCall();
        runStopsWhenNoneCanBeCalled();
        runCallsTwentyFour();
        CHECK.end();
    }

    private static void aChainIsCalledLinkByLink() {
        CHECK.sentence("the cue for which it waits, if there is one, is CALLED");
        Clockmask x = Scenes.chain(24);
        for (int next = 0; next < 24; next++) {
            for (int cue = 0; cue < 24; cue++) {
                int c = cue;
                CHECK.due("canCall(" + c + ") after " + next, x.canCall(c), c == next);
                if (c == next + 1 || c == next - 1 || c == 23 && next < 23) {
                    CHECK.refused(x, "call(" + c + ") after " + next, STATE, () -> x.call(c));
                }
            }
            CHECK.due("call(" + next + ")", x.call(next), next + 1);
        }
    }

    private static void aChainIsRun() {
        CHECK.sentence("Returns how many are called by that");
        for (int cues = 0; cues <= 24; cues++) {
            CHECK.due("run() of a chain of " + cues, Scenes.chain(cues).run(), cues);
            Clockmask x = Scenes.chain(24);
            for (int cue = 0; cue < cues; cue++) {
                x.call(cue);
            }
            CHECK.due("run() after " + cues + " calls", x.run(), 24 - cues);
            CHECK.due("run() again", x.run(), 0);
            CHECK.due("endPlay()", x.endPlay(), 34);
        }
    }

    private static void aChainIsMissedFromEachLink() {
        CHECK.sentence("If a cue is missed, all WAITING cues that wait for it are missed, too, and so on");
        for (int cue = 0; cue < 24; cue++) {
            Clockmask x = Scenes.chain(24);
            CHECK.due("miss(" + cue + ")", x.miss(cue), 24 - cue);
            CHECK.due("states", Scenes.states(x), "0".repeat(cue) + "2".repeat(24 - cue));
            CHECK.due("run()", x.run(), cue);
            Clockmask y = Scenes.chain(24);
            for (int called = 0; called < cue; called++) {
                y.call(called);
            }
            CHECK.due("miss(" + cue + ") after those below", y.miss(cue), 24 - cue);
            CHECK.due("states", Scenes.states(y), "1".repeat(cue) + "2".repeat(24 - cue));
            CHECK.due("endPlay()", y.endPlay(), Math.max(0, 10 + cue - (24 - cue)));
        }
    }

    private static void aStarIsMissed() {
        CHECK.sentence("all WAITING cues that wait for it are missed");
        Clockmask x = new Clockmask();
        x.addCue(DOFF, 0, 0, NONE);
        for (int cue = 1; cue < 24; cue++) {
            x.addCue(DOFF, 0, 0, 0);
        }
        CHECK.due("miss(23)", x.miss(23), 1);
        CHECK.due("miss(1)", x.miss(1), 1);
        CHECK.due("states", Scenes.states(x), "02" + "0".repeat(21) + "2");
        CHECK.due("miss(0)", x.miss(0), 22);
        CHECK.due("states", Scenes.states(x), "2".repeat(24));
    }

    private static void aTreeIsMissedBranchByBranch() {
        CHECK.sentence("and so on");
        for (int cue = 0; cue < 24; cue++) {
            Clockmask x = tree();
            StringBuilder states = new StringBuilder();
            int below = 0;
            for (int other = 0; other < 24; other++) {
                boolean under = isUnder(other, cue);
                states.append(under ? '2' : '0');
                below += under ? 1 : 0;
            }
            CHECK.due("miss(" + cue + ")", x.miss(cue), below);
            CHECK.due("states", Scenes.states(x), states.toString());
        }
        Clockmask y = tree();
        CHECK.due("miss(5)", y.miss(5), 4);
        CHECK.due("miss(2), without what was missed with 5", y.miss(2), 4);
        CHECK.due("miss(0), without what was missed with 2", y.miss(0), 16);
    }

    /** The cue n waits for the cue (n - 1) / 2. */
    private static Clockmask tree() {
        Clockmask x = new Clockmask();
        x.addCue(DOFF, 0, 0, NONE);
        for (int cue = 1; cue < 24; cue++) {
            x.addCue(DOFF, 0, 0, (cue - 1) / 2);
        }
        return x;
    }

    private static boolean isUnder(int cue, int root) {
        int up = cue;
        while (up > root) {
            up = (up - 1) / 2;
        }
        return up == root;
    }

    private static void twoChainsAreMissedApart() {
        CHECK.sentence("all WAITING cues that wait for it");
        Clockmask x = new Clockmask();
        for (int cue = 0; cue < 24; cue++) {
            x.addCue(DOFF, 0, 0, cue < 2 ? NONE : cue - 2);
        }
        CHECK.due("miss(4)", x.miss(4), 10);
        CHECK.due("states", Scenes.states(x), "0000" + "20".repeat(10));
        CHECK.due("miss(1)", x.miss(1), 12);
        CHECK.due("miss(2)", x.miss(2), 1);
        CHECK.due("miss(0)", x.miss(0), 1);
    }

    private static void missedOnesAreCountedOnce() {
        CHECK.sentence("Returns how many cues are missed by that");
        Clockmask x = Scenes.chain(24);
        int[] fromTheEnd = {23, 20, 12, 1, 0};
        int[] due = {1, 3, 8, 11, 1};
        for (int i = 0; i < fromTheEnd.length; i++) {
            CHECK.due("miss(" + fromTheEnd[i] + ")", x.miss(fromTheEnd[i]), due[i]);
        }
        CHECK.due("endPlay(), 24 missed", x.endPlay(), 0);
    }

    private static void calledOnesStayCalled() {
        CHECK.sentence("all WAITING cues that wait for it are missed");
        Clockmask x = new Clockmask();
        x.addCue(WEAR, 0, 0, NONE);
        x.addCue(WEAR, 1, 1, 0);
        x.addCue(DOFF, 2, 0, 0);
        x.addCue(WEAR, 3, 3, 1);
        x.addCue(DOFF, 4, 0, 2);
        x.addCue(DOFF, 4, 0, 3);
        CHECK.due("run()", x.run(), 3);
        CHECK.due("miss(2)", x.miss(2), 2);
        CHECK.due("states", Scenes.states(x), "112120");
        CHECK.due("maskOf(3)", x.maskOf(3), 3);
        CHECK.due("miss(5)", x.miss(5), 1);
        CHECK.due("endPlay(), 3 called and 3 missed", x.endPlay(), 10);
    }

    private static void cuesAddedLaterAreMissedToo() {
        CHECK.sentence("all WAITING cues that wait for it are missed");
        Clockmask x = Scenes.chain(3);
        CHECK.due("miss(2)", x.miss(2), 1);
        CHECK.due("addCue", x.addCue(DOFF, 1, 0, 1), 3);
        CHECK.due("miss(1)", x.miss(1), 2);
        CHECK.due("states", Scenes.states(x), "0222");
        x.call(0);
        x.endPlay();
        x.addCue(DOFF, 0, 0, NONE);
        x.addCue(DOFF, 0, 0, NONE);
        CHECK.due("miss(0) of the next play, 1 waits for none", x.miss(0), 1);
        CHECK.due("states", Scenes.states(x), "20");
    }

    private static void missIsRefused() {
        CHECK.sentence("IllegalStateException if it is not WAITING");
        Clockmask x = Scenes.chain(4);
        x.call(0);
        CHECK.refused(x, "miss(0), called", STATE, () -> x.miss(0));
        x.miss(2);
        CHECK.refused(x, "miss(0), others waited for it", STATE, () -> x.miss(0));
        CHECK.refused(x, "miss(2), missed", STATE, () -> x.miss(2));
        CHECK.refused(x, "miss(3), missed with 2", STATE, () -> x.miss(3));
        CHECK.due("miss(1), it can be called and waits", x.miss(1), 1);
        Clockmask y = new Clockmask();
        CHECK.refused(y, "miss(0) without cues", NO_SUCH, () -> y.miss(0));
    }

    private static void missDoesNothingElse() {
        CHECK.sentence("Misses a cue");
        Clockmask x = Scenes.full();
        String before = View.of(x).replaceAll("cue \\d \\w+; ", "");
        CHECK.due("miss(16)", x.miss(16), 8);
        CHECK.due("all but the cues", View.of(x).replaceAll("cue \\d \\w+; ", ""), before);
        CHECK.due("states", Scenes.states(x), "1".repeat(12) + "2".repeat(12));
    }

    private static void runCallsNone() {
        CHECK.sentence("until none can");
        Clockmask x = new Clockmask();
        CHECK.due("run() without cues", x.run(), 0);
        x.addCue(EXIT, 0, 0, NONE);
        x.addCue(ENTER, 0, 0, NONE);
        x.addCue(DOFF, 0, 0, NONE);
        x.addCue(SWAP, 0, 1, NONE);
        x.addCue(WEAR, 0, 0, 0);
        CHECK.due("run(), none can be called", x.run(), 0);
        CHECK.due("states", Scenes.states(x), "00000");
        Clockmask y = Scenes.chain(24);
        y.miss(0);
        CHECK.due("run(), all are missed", y.run(), 0);
        y.endPlay();
        CHECK.due("run() of the next play", y.run(), 0);
    }

    private static void runCallsOne() {
        CHECK.sentence("Calls the cue with the lowest number that can be called");
        for (int cue = 0; cue < 24; cue++) {
            Clockmask x = new Clockmask();
            for (int other = 0; other < 24; other++) {
                x.addCue(other == cue ? WEAR : EXIT, 5, 5, NONE);
            }
            CHECK.due("run(), " + cue + " alone can be called", x.run(), 1);
            CHECK.due("stateOf(" + cue + ")", x.stateOf(cue), Clockmask.CALLED);
            CHECK.due("maskOf(5)", x.maskOf(5), 5);
        }
    }

    private static void runTakesTheLowestNumberFirst() {
        CHECK.sentence("Calls the cue with the lowest number that can be called");
        Clockmask x = new Clockmask();
        for (int mask = 5; mask >= 0; mask--) {
            x.addCue(WEAR, 2, mask, NONE);
        }
        CHECK.due("run()", x.run(), 1);
        CHECK.due("maskOf(2)", x.maskOf(2), 5);
        CHECK.due("states", Scenes.states(x), "100000");
        x.addCue(DOFF, 2, 0, NONE);
        CHECK.due("run(), DOFF and the next WEAR", x.run(), 2);
        CHECK.due("maskOf(2)", x.maskOf(2), 4);
        CHECK.due("states", Scenes.states(x), "1100001");
    }

    private static void runBeginsAgainAfterEachCall() {
        CHECK.sentence("Calls the cue with the lowest number that can be called, and so on");
        Clockmask x = new Clockmask();
        x.addCue(DOFF, 0, 0, NONE);
        x.addCue(WEAR, 0, 2, 0);
        x.addCue(WEAR, 0, 1, NONE);
        x.addCue(WEAR, 1, 2, NONE);
        // In the order 2, 0, 1; a run that went on upwards would take 3 before 0.
        CHECK.due("run()", x.run(), 3);
        CHECK.due("states", Scenes.states(x), "1110");
        CHECK.due("maskOf(0)", x.maskOf(0), 2);
        CHECK.due("maskOf(1)", x.maskOf(1), NONE);
        Clockmask y = new Clockmask();
        y.dress(0, 0);
        y.addCue(EXIT, 0, 0, NONE);
        y.addCue(ENTER, 0, 0, 0);
        y.addCue(ENTER, 0, 0, NONE);
        y.addCue(EXIT, 0, 0, NONE);
        // 2, 0, 1, 3: on stage, off, on and off again.
        CHECK.due("run()", y.run(), 4);
        CHECK.due("wear(0)", y.wear(0), 2);
        CHECK.due("isOn(0)", y.isOn(0), false);
    }

    private static void runStopsWhenNoneCanBeCalled() {
        CHECK.sentence("until none can");
        Clockmask x = new Clockmask();
        x.addCue(WEAR, 0, 0, NONE);
        x.addCue(ENTER, 0, 0, 0);
        x.addCue(EXIT, 0, 0, 1);
        x.addCue(DOFF, 0, 0, 2);
        CHECK.due("run(), nobody is dressed", x.run(), 1);
        CHECK.due("states", Scenes.states(x), "1000");
        x.dress(0, 0);
        CHECK.due("run() then", x.run(), 3);
        CHECK.due("run() once more", x.run(), 0);
        x.addCue(WEAR, 0, 5, NONE);
        x.addCue(DOFF, 0, 0, NONE);
        x.miss(4);
        CHECK.due("run(), what could be done was missed", x.run(), 0);
        CHECK.due("states", Scenes.states(x), "111120");
        Clockmask y = new Clockmask();
        Scenes.wearOut(y, 0, 1, 2);
        for (int cue = 0; cue < 4; cue++) {
            y.addCue(cue % 2 == 0 ? ENTER : EXIT, 0, 0, NONE);
        }
        CHECK.due("run() until the costume is torn", y.run(), 2);
        CHECK.due("states", Scenes.states(y), "11111100");
        CHECK.due("wear(1)", y.wear(1), 3);
    }

    private static void runCallsTwentyFour() {
        CHECK.sentence("Calls the cue with the lowest number that can be called, and so on, until none can");
        Clockmask x = new Clockmask();
        for (int cue = 0; cue < 24; cue++) {
            x.addCue(cue < 12 ? DOFF : WEAR, 3, 3, NONE);
        }
        // 12, 0, 13, 1, .., 23, 11
        CHECK.due("run()", x.run(), 24);
        CHECK.due("states", Scenes.states(x), "1".repeat(24));
        CHECK.due("maskOf(3)", x.maskOf(3), NONE);
        CHECK.due("maskByCues(3)", x.maskByCues(3), NONE);
        Clockmask y = new Clockmask();
        for (int cue = 0; cue < 24; cue++) {
            y.addCue(cue < 11 ? DOFF : WEAR, 3, cue % 6, NONE);
        }
        // 11, 0, 12, 1, .., 21, 10, 22, and none is left for 23.
        CHECK.due("run()", y.run(), 23);
        CHECK.due("stateOf(23)", y.stateOf(23), Clockmask.WAITING);
        CHECK.due("maskOf(3)", y.maskOf(3), 4);
        CHECK.due("maskByCues(3)", y.maskByCues(3), 4);
    }
}
