/** Promises 14 to 21: maskOf, maskByCues, wearerOf, isOn, guess, points, endPlay, plays. */
public final class PlayTest {
    private static final int ENTER = Clockmask.ENTER;
    private static final int EXIT = Clockmask.EXIT;
    private static final int WEAR = Clockmask.WEAR;
    private static final int DOFF = Clockmask.DOFF;
    private static final int SWAP = Clockmask.SWAP;
    private static final Class<IndexOutOfBoundsException> NO_SUCH = IndexOutOfBoundsException.class;
    private static final Class<IllegalStateException> STATE = IllegalStateException.class;
    private static final int[] NO_SIX = {-1, 6, 7, Integer.MIN_VALUE, Integer.MAX_VALUE};

    private static final Check CHECK = new Check("PlayTest");

    public static void main(String[] args) {
        masksAndWearersAgree();
        masksByCuesFollowTheOrderOfCalls();
        playersAndMasksAskedForMustBe();
        aGuessGainsOrLoses();
        aGuessIsMadeOnceInAPlay();
        eachGuesserGuessesEachPlayer();
        guessingIsRefused();
        guessingRefusesTheFirstReasonNamed();
        endingPaysForCuesCalledAndMissed();
        endingNeverTakesMoreThanThereIs();
        endingClearsTheStage();
        endingIsRefused();
        CHECK.end();
    }

    private static void masksAndWearersAgree() {
        Clockmask x = new Clockmask();
        for (int player = 0; player < 6; player++) {
            Scenes.called(x, WEAR, player, 5 - player);
        }
        for (int player = 0; player < 6; player++) {
            CHECK.due("maskOf(" + player + ")", x.maskOf(player), 5 - player);
            CHECK.due("maskByCues(" + player + ")", x.maskByCues(player), 5 - player);
            CHECK.due("wearerOf(" + player + ")", x.wearerOf(player), 5 - player);
        }
        Scenes.called(x, DOFF, 2, 0);
        CHECK.due("maskOf(2)", x.maskOf(2), -1);
        CHECK.due("maskByCues(2)", x.maskByCues(2), -1);
        CHECK.due("wearerOf(3)", x.wearerOf(3), -1);
        CHECK.due("wearerOf(2)", x.wearerOf(2), 3);
    }

    private static void masksByCuesFollowTheOrderOfCalls() {
        Clockmask x = new Clockmask();
        x.dress(0, 0);
        x.dress(1, 1);
        int swapLast = x.addCue(SWAP, 0, 1, -1);
        int doff = x.addCue(DOFF, 0, 0, -1);
        int wearFive = x.addCue(WEAR, 0, 5, -1);
        int wearFour = x.addCue(WEAR, 0, 4, -1);
        x.addCue(ENTER, 0, 0, -1);
        x.addCue(ENTER, 1, 0, -1);
        x.call(wearFour);
        x.call(doff);
        x.call(wearFive);
        x.call(4);
        x.call(5);
        x.call(swapLast);
        CHECK.due("maskByCues(0)", x.maskByCues(0), -1);
        CHECK.due("maskByCues(1)", x.maskByCues(1), 5);
        CHECK.due("maskByCues(1) again", x.maskByCues(1), 5);
        CHECK.due("maskOf(1)", x.maskOf(1), 5);
        Scenes.called(x, EXIT, 1, 0);
        CHECK.due("maskOf(1), off stage with its mask", x.maskOf(1), 5);
        CHECK.due("maskByCues(1), off stage with its mask", x.maskByCues(1), 5);
    }

    private static void playersAndMasksAskedForMustBe() {
        Clockmask x = new Clockmask();
        for (int number : NO_SIX) {
            CHECK.refused(x, "maskOf(" + number + ")", NO_SUCH, () -> x.maskOf(number));
            CHECK.refused(x, "maskByCues(" + number + ")", NO_SUCH, () -> x.maskByCues(number));
            CHECK.refused(x, "wearerOf(" + number + ")", NO_SUCH, () -> x.wearerOf(number));
            CHECK.refused(x, "isOn(" + number + ")", NO_SUCH, () -> x.isOn(number));
        }
        for (int guesser : new int[] {-1, 3, 4, Integer.MIN_VALUE, Integer.MAX_VALUE}) {
            CHECK.refused(x, "points(" + guesser + ")", NO_SUCH, () -> x.points(guesser));
        }
    }

    private static void aGuessGainsOrLoses() {
        Clockmask x = onStageWithMasks();
        CHECK.due("guess(0, 1, 4)", x.guess(0, 1, 4), true);
        CHECK.due("points(0)", x.points(0), 3);
        CHECK.due("guess(0, 0, 4)", x.guess(0, 0, 4), false);
        CHECK.due("points(0)", x.points(0), 2);
        CHECK.due("guess(1, 0, 0)", x.guess(1, 0, 0), false);
        CHECK.due("guess(1, 1, 1)", x.guess(1, 1, 1), false);
        CHECK.due("points(1), below 0", x.points(1), -2);
        CHECK.due("points(2)", x.points(2), 0);
        CHECK.due("guess(2, 0, 5)", x.guess(2, 0, 5), true);
        CHECK.due("guess(2, 1, 4)", x.guess(2, 1, 4), true);
        CHECK.due("points(2)", x.points(2), 6);
    }

    private static void aGuessIsMadeOnceInAPlay() {
        Clockmask x = onStageWithMasks();
        x.guess(0, 0, 5);
        CHECK.refused(x, "guess(0, 0, 5) after a right one", STATE, () -> x.guess(0, 0, 5));
        x.guess(1, 0, 0);
        CHECK.refused(x, "guess(1, 0, 5) after a wrong one", STATE, () -> x.guess(1, 0, 5));
        Scenes.called(x, SWAP, 0, 1);
        CHECK.refused(x, "guess(0, 0, 4) with another mask", STATE, () -> x.guess(0, 0, 4));
        CHECK.due("guess(0, 1, 5)", x.guess(0, 1, 5), true);
        CHECK.due("guess(2, 0, 4)", x.guess(2, 0, 4), true);
        x.endPlay();
        Scenes.called(x, ENTER, 0, 0);
        Scenes.called(x, WEAR, 0, 2);
        CHECK.due("guess(0, 0, 2) in the next play", x.guess(0, 0, 2), true);
        CHECK.due("points(0)", x.points(0), 9);
    }

    private static void eachGuesserGuessesEachPlayer() {
        Clockmask x = new Clockmask();
        for (int player = 0; player < 6; player++) {
            x.dress(player, player + 1);
            Scenes.called(x, ENTER, player, 0);
            Scenes.called(x, WEAR, player, 5 - player);
        }
        for (int guesser = 0; guesser < 3; guesser++) {
            for (int player = 0; player < 6; player++) {
                int g = guesser;
                int p = player;
                CHECK.due("guess(" + g + ", " + p + ", 3)", x.guess(g, p, 3), p == 2);
                CHECK.refused(x, "guess(" + g + ", " + p + ", 3) again", STATE, () -> x.guess(g, p, 3));
            }
            CHECK.due("points(" + guesser + ")", x.points(guesser), -2);
        }
    }

    private static void guessingIsRefused() {
        Clockmask x = onStageWithMasks();
        for (int guesser : new int[] {-1, 3, 4, Integer.MIN_VALUE, Integer.MAX_VALUE}) {
            CHECK.refused(x, "guess(" + guesser + ", 0, 0)", NO_SUCH, () -> x.guess(guesser, 0, 0));
        }
        for (int number : NO_SIX) {
            CHECK.refused(x, "guess(0, " + number + ", 0)", NO_SUCH, () -> x.guess(0, number, 0));
            CHECK.refused(x, "guess(0, 0, " + number + ")", NO_SUCH, () -> x.guess(0, 0, number));
        }
        CHECK.refused(x, "guess(0, 2, 0) neither on stage nor masked", STATE, () -> x.guess(0, 2, 0));
        Scenes.called(x, DOFF, 0, 0);
        CHECK.refused(x, "guess(0, 0, 5) on stage without a mask", STATE, () -> x.guess(0, 0, 5));
        Scenes.called(x, EXIT, 1, 0);
        CHECK.refused(x, "guess(0, 1, 4) off stage with a mask", STATE, () -> x.guess(0, 1, 4));
        Scenes.called(x, WEAR, 0, 3);
        CHECK.due("guess(0, 0, 3), none was made before", x.guess(0, 0, 3), true);
    }

    private static void guessingRefusesTheFirstReasonNamed() {
        Clockmask x = onStageWithMasks();
        x.guess(0, 0, 5);
        CHECK.refused(x, "guess(0, 0, 6) guessed before", NO_SUCH, () -> x.guess(0, 0, 6));
        CHECK.refused(x, "guess(0, 3, -1) off stage", NO_SUCH, () -> x.guess(0, 3, -1));
        CHECK.refused(x, "guess(3, 3, 0) off stage", NO_SUCH, () -> x.guess(3, 3, 0));
    }

    private static void endingPaysForCuesCalledAndMissed() {
        Clockmask x = onStageWithMasks();
        for (int i = 0; i < 3; i++) {
            x.miss(x.addCue(DOFF, 0, 0, -1));
        }
        CHECK.due("endPlay(), 4 called and 3 missed", x.endPlay(), 11);
        CHECK.due("purse()", x.purse(), 11);
        CHECK.due("plays()", x.plays(), 1);
        CHECK.due("endPlay(), no cues", x.endPlay(), 11);
        CHECK.due("plays()", x.plays(), 2);
        Scenes.called(x, WEAR, 0, 0);
        CHECK.due("endPlay(), 1 called", x.endPlay(), 12);
        x.miss(x.addCue(DOFF, 0, 0, -1));
        CHECK.due("endPlay(), 1 missed", x.endPlay(), 11);
        CHECK.due("plays()", x.plays(), 4);
    }

    private static void endingNeverTakesMoreThanThereIs() {
        Clockmask x = new Clockmask();
        Scenes.missAll(x, 10);
        CHECK.due("endPlay(), 10 missed", x.endPlay(), 0);
        Scenes.called(x, WEAR, 0, 0);
        Scenes.missAll(x, 3);
        CHECK.due("endPlay(), 1 called and 3 missed", x.endPlay(), 0);
        Scenes.called(x, WEAR, 0, 0);
        Scenes.called(x, WEAR, 1, 1);
        Scenes.missAll(x, 1);
        CHECK.due("endPlay(), 2 called and 1 missed", x.endPlay(), 1);
        Scenes.missAll(x, 24);
        CHECK.due("endPlay(), 24 missed", x.endPlay(), 0);
        CHECK.due("purse()", x.purse(), 0);
    }

    private static void endingClearsTheStage() {
        Clockmask x = onStageWithMasks();
        Scenes.called(x, EXIT, 1, 0);
        x.guess(0, 0, 5);
        x.endPlay();
        CHECK.due("cues()", x.cues(), 0);
        for (int player = 0; player < 6; player++) {
            CHECK.due("maskOf", x.maskOf(player), -1);
            CHECK.due("maskByCues", x.maskByCues(player), -1);
            CHECK.due("wearerOf", x.wearerOf(player), -1);
            CHECK.due("isOn", x.isOn(player), false);
        }
        CHECK.due("costumeOf(0) that was on stage", x.costumeOf(0), 0);
        CHECK.due("wear(0), no exit", x.wear(0), 0);
        CHECK.due("costumeOf(1)", x.costumeOf(1), 1);
        CHECK.due("wear(1), one exit", x.wear(1), 1);
        CHECK.due("points(0)", x.points(0), 3);
        CHECK.due("dress(0, 2), off stage again", x.dress(0, 2), 0);
    }

    private static void endingIsRefused() {
        Clockmask x = onStageWithMasks();
        x.addCue(WEAR, 4, 0, -1);
        CHECK.refused(x, "endPlay() with a cue that can be called", STATE, () -> x.endPlay());
        x.call(4);
        x.addCue(WEAR, 4, 0, -1);
        CHECK.refused(x, "endPlay() with a cue that cannot be called", STATE, () -> x.endPlay());
        x.miss(5);
        CHECK.due("endPlay()", x.endPlay(), 14);
    }

    /** The players 0 and 1 on stage with the masks 5 and 4, after the cues 0 to 3. */
    private static Clockmask onStageWithMasks() {
        Clockmask x = new Clockmask();
        x.dress(0, 0);
        x.dress(1, 1);
        Scenes.called(x, ENTER, 0, 0);
        Scenes.called(x, ENTER, 1, 0);
        Scenes.called(x, WEAR, 0, 5);
        Scenes.called(x, WEAR, 1, 4);
        return x;
    }
}
