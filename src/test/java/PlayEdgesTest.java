/** Promises 14 to 21: each sentence on masks, guesses and plays that names a boundary case. */
public final class PlayEdgesTest {
    private static final int ENTER = Clockmask.ENTER;
    private static final int EXIT = Clockmask.EXIT;
    private static final int WEAR = Clockmask.WEAR;
    private static final int DOFF = Clockmask.DOFF;
    private static final int SWAP = Clockmask.SWAP;
    private static final int NONE = Clockmask.NONE;
    private static final Class<IndexOutOfBoundsException> NO_SUCH = IndexOutOfBoundsException.class;
    private static final Class<IllegalArgumentException> ARGUMENT = IllegalArgumentException.class;
    private static final Class<IllegalStateException> STATE = IllegalStateException.class;

    private static final Check CHECK = new Check("PlayEdgesTest");

    public static void main(String[] args) {
        nobodyWearsAMaskAtFirst();
        allMasksAreWornOrNone();
        masksByCuesAreThoseOfTheCallsInTheirOrder();
        masksByCuesBeginAnewWithThePlay();
        masksStayOnOffStage();
        theMaskHidesThePartOfItsNumber();
        threePointsOrOneLess();
        pointsMayBeBelowZero();
        aPartIsGuessedOnceInAPlay();
        guessesAreOfOnStageWithAMaskAlone();
        aRefusedGuessIsNone();
        guessThrowsTheFirstThatIsNamed();
        thePurseGetsOneForEachCalled();
        thePurseLosesNoMoreThanThereIs();
        thePurseGetsBeforeItLoses();
        aWaitingCueKeepsThePlay();
        whatGoesWithThePlay();
        whatStaysOverThePlay();
        playsCountTheEndedOnes();
        CHECK.end();
    }

    private static void nobodyWearsAMaskAtFirst() {
        CHECK.sentence("A player wears one mask, or none, as at first .. A player is on stage, or off, as at first");
        Clockmask x = new Clockmask();
        for (int number = 0; number < 6; number++) {
            CHECK.due("maskOf(" + number + ")", x.maskOf(number), NONE);
            CHECK.due("maskByCues(" + number + ")", x.maskByCues(number), NONE);
            CHECK.due("wearerOf(" + number + ")", x.wearerOf(number), NONE);
            CHECK.due("isOn(" + number + ")", x.isOn(number), false);
        }
    }

    private static void allMasksAreWornOrNone() {
        CHECK.sentence("Returns the player who wears a mask; NONE if nobody does");
        for (int player = 0; player < 6; player++) {
            for (int mask = 0; mask < 6; mask++) {
                Clockmask x = new Clockmask();
                Scenes.called(x, WEAR, player, mask);
                for (int number = 0; number < 6; number++) {
                    CHECK.due("maskOf(" + number + ")", x.maskOf(number), number == player ? mask : NONE);
                    CHECK.due("maskByCues(" + number + ")", x.maskByCues(number), number == player ? mask : NONE);
                    CHECK.due("wearerOf(" + number + ")", x.wearerOf(number), number == mask ? player : NONE);
                }
            }
        }
        Clockmask y = Scenes.allOnStage();
        for (int mask = 0; mask < 6; mask++) {
            CHECK.due("wearerOf(" + mask + "), all are worn", y.wearerOf(mask), 5 - mask);
        }
    }

    private static void masksByCuesAreThoseOfTheCallsInTheirOrder() {
        CHECK.sentence("all cues that were called in the play once more, in the order in which they were called");
        Clockmask x = new Clockmask();
        masksAgree(x);
        x.addCue(WEAR, 0, 0, NONE);
        x.addCue(WEAR, 0, 1, NONE);
        x.addCue(WEAR, 0, 2, NONE);
        x.addCue(DOFF, 0, 0, NONE);
        x.addCue(DOFF, 0, 0, NONE);
        x.addCue(WEAR, 1, 4, NONE);
        x.miss(5);
        masksAgree(x);
        // The lowest number last: by their numbers the masks would end with the mask 2.
        for (int cue : new int[] {2, 4, 1, 3, 0}) {
            x.call(cue);
            masksAgree(x);
        }
        CHECK.due("maskByCues(0)", x.maskByCues(0), 0);
        CHECK.due("maskByCues(1), its cue was missed", x.maskByCues(1), NONE);
        Clockmask y = Scenes.allOnStage();
        while (y.cues() < 24) {
            int a = y.cues() % 6;
            Scenes.called(y, SWAP, a, (a + 1 + y.cues() % 5) % 6);
            masksAgree(y);
        }
    }

    private static void masksAgree(Clockmask x) {
        for (int player = 0; player < 6; player++) {
            CHECK.due("maskByCues(" + player + ")", x.maskByCues(player), x.maskOf(player));
        }
    }

    private static void masksByCuesBeginAnewWithThePlay() {
        CHECK.sentence("all cues that were called in the play");
        Clockmask x = Scenes.allOnStage();
        x.endPlay();
        masksAgree(x);
        CHECK.due("maskByCues(5)", x.maskByCues(5), NONE);
        x.addCue(WEAR, 5, 5, NONE);
        CHECK.due("maskByCues(5), its cue waits", x.maskByCues(5), NONE);
        x.call(0);
        CHECK.due("maskByCues(5)", x.maskByCues(5), 5);
        CHECK.due("maskByCues(0)", x.maskByCues(0), NONE);
    }

    private static void masksStayOnOffStage() {
        CHECK.sentence("EXIT a: it is on stage; it is off stage then");
        Clockmask x = Scenes.allOnStage();
        for (int player = 0; player < 6; player++) {
            Scenes.called(x, EXIT, player, 0);
            CHECK.due("maskOf(" + player + ")", x.maskOf(player), 5 - player);
            CHECK.due("isOn(" + player + ")", x.isOn(player), false);
        }
        masksAgree(x);
        Clockmask y = new Clockmask();
        Scenes.wearOut(y, 0, 1, 2);
        Scenes.masked(y, 0, 3);
        Scenes.called(y, EXIT, 0, 0);
        CHECK.due("costumeOf(0), torn", y.costumeOf(0), NONE);
        CHECK.due("maskOf(0), its costume torn", y.maskOf(0), 3);
        CHECK.due("maskByCues(0), its costume torn", y.maskByCues(0), 3);
    }

    private static void theMaskHidesThePartOfItsNumber() {
        CHECK.sentence("The mask m hides the part m");
        for (int mask = 0; mask < 6; mask++) {
            for (int part = 0; part < 6; part++) {
                Clockmask x = new Clockmask();
                Scenes.masked(x, 2, mask);
                CHECK.due("guess(1, 2, " + part + ") of " + mask, x.guess(1, 2, part), part == mask);
                CHECK.due("points(1)", x.points(1), part == mask ? 3 : -1);
            }
        }
        Clockmask y = Scenes.allOnStage();
        Scenes.called(y, SWAP, 0, 5);
        CHECK.due("guess(0, 0, 5), swapped away", y.guess(0, 0, 5), false);
        CHECK.due("guess(0, 5, 5), swapped to it", y.guess(0, 5, 5), true);
    }

    private static void threePointsOrOneLess() {
        CHECK.sentence("for the right part it gets 3 points, otherwise it loses 1");
        for (int guesser = 0; guesser < 3; guesser++) {
            Clockmask x = Scenes.allOnStage();
            int points = 0;
            for (int player = 0; player < 6; player++) {
                boolean right = player % 2 == 0;
                CHECK.due("guess", x.guess(guesser, player, right ? 5 - player : player), right);
                points += right ? 3 : -1;
                for (int other = 0; other < 3; other++) {
                    CHECK.due("points(" + other + ")", x.points(other), other == guesser ? points : 0);
                }
            }
        }
    }

    private static void pointsMayBeBelowZero() {
        CHECK.sentence("points, 0 at first, which may be below 0");
        Clockmask x = new Clockmask();
        for (int play = 1; play <= 5; play++) {
            for (int player = 0; player < 6; player++) {
                Scenes.masked(x, player, player);
                CHECK.due("guess(2, player, wrong)", x.guess(2, player, (player + 1) % 6), false);
                CHECK.due("guess(0, player, right)", x.guess(0, player, player), true);
            }
            x.endPlay();
            CHECK.due("points(2)", x.points(2), -6 * play);
            CHECK.due("points(0)", x.points(0), 18 * play);
            CHECK.due("points(1)", x.points(1), 0);
        }
    }

    private static void aPartIsGuessedOnceInAPlay() {
        CHECK.sentence("A guesser can guess the part of each player once in a play");
        for (int play = 0; play < 3; play++) {
            Clockmask x = Scenes.allOnStage();
            for (int guesser = 0; guesser < 3; guesser++) {
                for (int player = 0; player < 6; player++) {
                    int g = guesser;
                    int p = player;
                    int part = play == 0 ? 5 - p : p;
                    CHECK.due("guess(" + g + ", " + p + ")", x.guess(g, p, part), play == 0);
                    for (int again = 0; again < 6; again++) {
                        int a = again;
                        CHECK.refused(x, "guess(" + g + ", " + p + ", " + a + ") again", STATE, () -> x.guess(g, p, a));
                    }
                }
            }
            Scenes.called(x, DOFF, 3, 0);
            Scenes.called(x, EXIT, 3, 0);
            Scenes.masked(x, 3, 2);
            CHECK.refused(x, "guess(0, 3, 2), on stage again", STATE, () -> x.guess(0, 3, 2));
            x.endPlay();
            Scenes.masked(x, 3, 2);
            CHECK.due("guess(0, 3, 2), the next play", x.guess(0, 3, 2), true);
            CHECK.refused(x, "guess(0, 3, 2), the next play", STATE, () -> x.guess(0, 3, 2));
        }
    }

    private static void guessesAreOfOnStageWithAMaskAlone() {
        CHECK.sentence("IllegalStateException if the player is not on stage with a mask");
        for (int player = 0; player < 6; player++) {
            int p = player;
            Clockmask x = new Clockmask();
            x.dress(p, p + 1);
            CHECK.refused(x, "guess, off stage, no mask", STATE, () -> x.guess(0, p, 4));
            Scenes.called(x, WEAR, p, 4);
            CHECK.refused(x, "guess, off stage, a mask", STATE, () -> x.guess(0, p, 4));
            Scenes.called(x, ENTER, p, 0);
            CHECK.due("guess, on stage, a mask", x.guess(0, p, 4), true);
            Scenes.called(x, DOFF, p, 0);
            CHECK.refused(x, "guess, on stage, no mask", STATE, () -> x.guess(1, p, 4));
            Scenes.called(x, WEAR, p, 0);
            CHECK.due("guess, on stage, another mask", x.guess(1, p, 0), true);
            Scenes.called(x, EXIT, p, 0);
            CHECK.refused(x, "guess, off stage again, a mask", STATE, () -> x.guess(2, p, 0));
            x.endPlay();
            CHECK.refused(x, "guess, the play ended", STATE, () -> x.guess(2, p, 0));
        }
        Clockmask y = Scenes.allOnStage();
        Scenes.called(y, DOFF, 1, 0);
        Scenes.called(y, SWAP, 1, 2);
        CHECK.refused(y, "guess(0, 2, 3), swapped its mask away", STATE, () -> y.guess(0, 2, 3));
        CHECK.due("guess(0, 1, 3)", y.guess(0, 1, 3), true);
    }

    private static void aRefusedGuessIsNone() {
        CHECK.sentence("a call that throws changes nothing");
        Clockmask x = new Clockmask();
        for (int guesser = 0; guesser < 3; guesser++) {
            for (int player = 0; player < 6; player++) {
                int g = guesser;
                int p = player;
                CHECK.refused(x, "guess(" + g + ", " + p + ", 0)", STATE, () -> x.guess(g, p, 0));
                CHECK.refused(x, "guess(" + g + ", " + p + ", 6)", NO_SUCH, () -> x.guess(g, p, 6));
                CHECK.refused(x, "guess(" + g + ", " + p + ", -1)", NO_SUCH, () -> x.guess(g, p, -1));
            }
        }
        for (int player = 0; player < 6; player++) {
            Scenes.masked(x, player, player);
            for (int guesser = 0; guesser < 3; guesser++) {
                CHECK.due("guess(" + guesser + ", " + player + ")", x.guess(guesser, player, player), true);
            }
        }
    }

    private static void guessThrowsTheFirstThatIsNamed() {
        CHECK.sentence("If several exceptions apply to a call, the one that its throws clause names first is thrown");
        Clockmask x = new Clockmask();
        Scenes.masked(x, 0, 0);
        x.guess(0, 0, 0);
        CHECK.refused(x, "guess(0, 0, 6), guessed", NO_SUCH, () -> x.guess(0, 0, 6));
        CHECK.refused(x, "guess(0, 0, -1), guessed", NO_SUCH, () -> x.guess(0, 0, -1));
        CHECK.refused(x, "guess(0, 1, 6), off stage", NO_SUCH, () -> x.guess(0, 1, 6));
        CHECK.refused(x, "guess(3, 1, 0), off stage", NO_SUCH, () -> x.guess(3, 1, 0));
        CHECK.refused(x, "guess(-1, 1, 0), off stage", NO_SUCH, () -> x.guess(-1, 1, 0));
        CHECK.refused(x, "guess(0, 6, 0)", NO_SUCH, () -> x.guess(0, 6, 0));
        CHECK.refused(x, "guess(0, -1, 0)", NO_SUCH, () -> x.guess(0, -1, 0));
        CHECK.refused(x, "guess(3, 6, 6)", NO_SUCH, () -> x.guess(3, 6, 6));
        Scenes.called(x, DOFF, 0, 0);
        CHECK.refused(x, "guess(0, 0, 0), guessed, no mask", STATE, () -> x.guess(0, 0, 0));
    }

    private static void thePurseGetsOneForEachCalled() {
        CHECK.sentence("the purse gets 1 for each cue that was called");
        for (int called = 0; called <= 24; called += 2) {
            Clockmask x = new Clockmask();
            Scenes.callAll(x, called);
            CHECK.due("purse() before", x.purse(), 10);
            CHECK.due("endPlay(), " + called + " called", x.endPlay(), 10 + called);
            CHECK.due("purse()", x.purse(), 10 + called);
        }
        Clockmask y = new Clockmask();
        for (int play = 1; play <= 9; play++) {
            Scenes.callAll(y, 24);
            CHECK.due("endPlay() of play " + play, y.endPlay(), 10 + 24 * play);
        }
    }

    private static void thePurseLosesNoMoreThanThereIs() {
        CHECK.sentence("then it loses 1 for each that was missed, but not more than there is");
        for (int missed = 0; missed <= 24; missed++) {
            Clockmask x = new Clockmask();
            Scenes.missAll(x, missed);
            CHECK.due("endPlay(), " + missed + " missed", x.endPlay(), missed < 10 ? 10 - missed : 0);
            CHECK.due("purse()", x.purse(), missed < 10 ? 10 - missed : 0);
            Scenes.callAll(x, 2);
            CHECK.due("endPlay(), 2 called", x.endPlay(), missed < 10 ? 12 - missed : 2);
        }
        Clockmask y = new Clockmask();
        Scenes.purseDownTo(y, 0);
        Scenes.missAll(y, 1);
        CHECK.due("endPlay(), nothing to lose", y.endPlay(), 0);
        CHECK.due("endPlay() without cues", y.endPlay(), 0);
    }

    private static void thePurseGetsBeforeItLoses() {
        CHECK.sentence("the purse gets 1 for each cue that was called; then it loses 1 for each that was missed");
        for (int called = 0; called <= 6; called += 2) {
            for (int missed = 0; missed <= 18; missed++) {
                Clockmask x = new Clockmask();
                Scenes.callAll(x, called);
                Scenes.missAll(x, missed);
                String play = called + " called, " + missed + " missed";
                CHECK.due("endPlay(), " + play, x.endPlay(), Math.max(0, 10 + called - missed));
                Clockmask y = new Clockmask();
                Scenes.purseDownTo(y, 0);
                Scenes.missAll(y, missed);
                Scenes.callAll(y, called);
                CHECK.due("endPlay(), none before, " + play, y.endPlay(), Math.max(0, called - missed));
            }
        }
    }

    private static void aWaitingCueKeepsThePlay() {
        CHECK.sentence("IllegalStateException if some cue is WAITING");
        for (int waiting = 0; waiting < 24; waiting++) {
            Clockmask x = new Clockmask();
            while (x.cues() < 24) {
                int cue = x.addCue(DOFF, 0, 0, NONE);
                if (cue != waiting) {
                    x.miss(cue);
                }
            }
            CHECK.refused(x, "endPlay(), " + waiting + " waits", STATE, () -> x.endPlay());
            x.miss(waiting);
            CHECK.due("endPlay()", x.endPlay(), 0);
        }
        Clockmask y = Scenes.full();
        y.guess(0, 0, 5);
        CHECK.refused(y, "endPlay(), some wait", STATE, () -> y.endPlay());
        CHECK.refused(y, "guess(0, 0, 5), guesses stay", STATE, () -> y.guess(0, 0, 5));
        CHECK.refused(y, "addCue, cues stay", STATE, () -> y.addCue(DOFF, 0, 0, NONE));
        y.miss(16);
        CHECK.due("endPlay(), 12 called and 12 missed", y.endPlay(), 10);
    }

    private static void whatGoesWithThePlay() {
        CHECK.sentence("all masks are doffed, all players are off stage"
            + " .. and the next play begins without cues and guesses");
        for (int cues = 0; cues <= 24; cues += 24) {
            Clockmask x = cues == 0 ? new Clockmask() : Scenes.full();
            if (cues == 24) {
                guessAll(x);
                x.miss(16);
            }
            x.endPlay();
            for (int number = 0; number < 6; number++) {
                CHECK.due("maskOf(" + number + ")", x.maskOf(number), NONE);
                CHECK.due("maskByCues(" + number + ")", x.maskByCues(number), NONE);
                CHECK.due("wearerOf(" + number + ")", x.wearerOf(number), NONE);
                CHECK.due("isOn(" + number + ")", x.isOn(number), false);
            }
            CHECK.due("cues()", x.cues(), 0);
            CHECK.refused(x, "stateOf(0)", NO_SUCH, () -> x.stateOf(0));
            CHECK.refused(x, "addCue that waits for 0", NO_SUCH, () -> x.addCue(DOFF, 0, 0, 0));
            for (int player = 0; player < 6; player++) {
                Scenes.masked(x, player, player);
            }
            CHECK.due("cues() of the next play", x.cues(), 12);
            guessAll(x);
            CHECK.due("states", Scenes.states(x), "1".repeat(12));
        }
    }

    private static void guessAll(Clockmask x) {
        for (int guesser = 0; guesser < 3; guesser++) {
            for (int player = 0; player < 6; player++) {
                CHECK.due("guess", x.guess(guesser, player, x.maskOf(player)), true);
            }
        }
    }

    private static void whatStaysOverThePlay() {
        CHECK.sentence("their costumes, as they are, stay on them");
        Clockmask x = new Clockmask();
        Scenes.wearOut(x, 0, 0, 3);
        Scenes.wearOut(x, 1, 1, 2);
        x.endPlay();
        Scenes.wearOut(x, 2, 3, 1);
        for (int player = 3; player < 6; player++) {
            Scenes.masked(x, player, player);
        }
        x.guess(1, 5, 5);
        x.guess(2, 5, 4);
        int[] costumes = {NONE, 1, 3, 4, 5, 6};
        int[] wears = {3, 2, 0, 1, 0, 0, 0, 0};
        CHECK.due("endPlay()", x.endPlay(), 28);
        for (int end = 0; end < 3; end++) {
            for (int player = 0; player < 6; player++) {
                CHECK.due("costumeOf(" + player + ")", x.costumeOf(player), costumes[player]);
            }
            for (int costume = 0; costume < 8; costume++) {
                CHECK.due("wear(" + costume + ")", x.wear(costume), wears[costume]);
            }
            CHECK.due("points(1)", x.points(1), 3);
            CHECK.due("points(2)", x.points(2), -1);
            CHECK.due("purse()", x.purse(), 28);
            CHECK.due("endPlay()", x.endPlay(), 28);
        }
        Clockmask y = x;
        CHECK.refused(y, "dress(0, 0), still torn", STATE, () -> y.dress(0, 0));
        CHECK.refused(y, "dress(2, 4), still on the player 3", STATE, () -> y.dress(2, 4));
        CHECK.refused(y, "dress(2, 5), still too large", ARGUMENT, () -> y.dress(2, 5));
        Scenes.called(y, ENTER, 1, 0);
        Scenes.called(y, EXIT, 1, 0);
        CHECK.due("costumeOf(1), torn over three plays", y.costumeOf(1), NONE);
    }

    private static void playsCountTheEndedOnes() {
        CHECK.sentence("Returns how many plays were ended");
        Clockmask x = new Clockmask();
        CHECK.due("plays(), none ended", x.plays(), 0);
        x.addCue(DOFF, 0, 0, NONE);
        CHECK.refused(x, "endPlay()", STATE, () -> x.endPlay());
        CHECK.due("plays(), refused", x.plays(), 0);
        x.miss(0);
        CHECK.due("plays(), nothing waits", x.plays(), 0);
        for (int play = 1; play <= 100; play++) {
            x.endPlay();
            CHECK.due("plays()", x.plays(), play);
        }
    }
}
