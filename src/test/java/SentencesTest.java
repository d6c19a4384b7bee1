/** The sentences of the document that no other test names, in its order. */
public final class SentencesTest {
    private static final int ENTER = Clockmask.ENTER;
    private static final int EXIT = Clockmask.EXIT;
    private static final int WEAR = Clockmask.WEAR;
    private static final int DOFF = Clockmask.DOFF;
    private static final int SWAP = Clockmask.SWAP;
    private static final int WAITING = Clockmask.WAITING;
    private static final int CALLED = Clockmask.CALLED;
    private static final int MISSED = Clockmask.MISSED;
    private static final int NONE = Clockmask.NONE;
    private static final Class<IndexOutOfBoundsException> NO_SUCH = IndexOutOfBoundsException.class;
    private static final Class<IllegalArgumentException> ARGUMENT = IllegalArgumentException.class;
    private static final Class<IllegalStateException> STATE = IllegalStateException.class;

    private static final Check CHECK = new Check("SentencesTest");

    public static void main(String[] args) {
        aMaskTheatre();
        objectsKnowNothingOfEachOther();
        sizesOfPlayersAndCostumes();
        aCueHasOneOfThreeStates();
        wearPutsTheMaskOnTheFace();
        theWornMasksPartIsGuessed();
        dressPutsTheCostumeOnThePlayer();
        dressIsRefusedForWhatDoesNotFit();
        dressIsRefusedForWhatCannotBePutOn();
        repairAnswersThePurse();
        costumeOfTellsTheCostume();
        wearTellsTheWear();
        purseTellsThePurse();
        addCueAddsACue();
        addCueTakesEachPlayerMaskAndCue();
        addCueIsRefusedForWhatIsNotThere();
        canCallTellsWhetherItCan();
        callCallsACue();
        callIsRefusedForWhatCannotBeCalled();
        stateOfTellsTheState();
        maskOfTellsTheMask();
        isOnTellsWhoIsOnStage();
        guessTellsWhetherItIsRight();
        guessIsRefusedOnceItIsMade();
        pointsTellThePoints();
        endPlayEndsThePlay();
        questionsChangeNothing();
        CHECK.end();
    }

    /** An evening of two plays, told by the document's first sentence. */
    private static void aMaskTheatre() {
        CHECK.sentence("players wear masks that hide their parts, exchange them in scenes");
        Clockmask x = new Clockmask();
        x.dress(2, 3);
        x.dress(3, 4);
        Scenes.called(x, WEAR, 2, 5);
        Scenes.called(x, ENTER, 2, 0);
        Scenes.called(x, ENTER, 3, 0);
        Scenes.called(x, SWAP, 2, 3);
        CHECK.due("maskOf(2)", x.maskOf(2), NONE);
        CHECK.due("maskOf(3)", x.maskOf(3), 5);
        CHECK.sentence("a prompter calls cues that wait for others, missed cues take others with them");
        int first = x.addCue(EXIT, 2, 0, NONE);
        int second = x.addCue(EXIT, 3, 0, first);
        int third = x.addCue(ENTER, 3, 0, second);
        CHECK.due("call(second)", Check.outcome(() -> x.call(second)), "IllegalStateException");
        CHECK.due("call(first)", x.call(first), 5);
        CHECK.due("call(second)", x.call(second), 6);
        int fourth = x.addCue(EXIT, 3, 0, third);
        CHECK.due("miss(third)", x.miss(third), 2);
        CHECK.due("stateOf(fourth)", x.stateOf(fourth), MISSED);
        CHECK.sentence("the public guesses who is who");
        Scenes.called(x, ENTER, 3, 0);
        CHECK.due("guess(0, 3, 5)", x.guess(0, 3, 5), true);
        CHECK.due("guess(1, 3, 3)", x.guess(1, 3, 3), false);
        CHECK.sentence("and plays follow one another");
        CHECK.due("endPlay(), 7 called and 2 missed", x.endPlay(), 15);
        CHECK.due("addCue in the next play", x.addCue(EXIT, 3, 0, NONE), 0);
        CHECK.due("run(), the player 3 is off stage", x.run(), 0);
        CHECK.due("addCue", x.addCue(ENTER, 3, 0, NONE), 1);
        CHECK.due("run()", x.run(), 2);
        CHECK.sentence("are dressed in costumes by size that wear and are repaired");
        CHECK.due("wear(4), an exit in each play", x.wear(4), 2);
        CHECK.due("dress(3, 3), on another", Check.outcome(() -> x.dress(3, 3)), "IllegalStateException");
        CHECK.due("dress(3, 5)", x.dress(3, 5), 4);
        CHECK.due("repair(4)", x.repair(4), 13);
        CHECK.due("endPlay(), 2 called", x.endPlay(), 15);
        CHECK.due("plays()", x.plays(), 2);
    }

    private static void objectsKnowNothingOfEachOther() {
        CHECK.sentence("Begins with a play without cues");
        String ofANewObject = View.of(new Clockmask());
        Clockmask x = Scenes.full();
        x.guess(0, 0, 5);
        Clockmask y = new Clockmask();
        CHECK.due("a new object beside a busy one", View.of(y), ofANewObject);
        String busy = View.of(x);
        Scenes.masked(y, 5, 0);
        CHECK.due("guess(0, 5, 0) of the new one", y.guess(0, 5, 0), true);
        y.endPlay();
        CHECK.due("the busy one beside the new one", View.of(x), busy);
        CHECK.due("guess(0, 5, 0) of the busy one", x.guess(0, 5, 0), true);
        CHECK.refused(x, "guess(0, 0, 5) of the busy one", STATE, () -> x.guess(0, 0, 5));
    }

    private static void sizesOfPlayersAndCostumes() {
        CHECK.sentence("The size of a player is its number; that of a costume is its number less 1");
        String[] fitting = {"0 1 2 ", "1 2 3 ", "2 3 4 ", "3 4 5 ", "4 5 6 ", "5 6 7 "};
        for (int player = 0; player < 6; player++) {
            int p = player;
            StringBuilder fit = new StringBuilder();
            for (int costume = 0; costume < 8; costume++) {
                int c = costume;
                if (Check.outcome(() -> new Clockmask().dress(p, c)).equals("-1")) {
                    fit.append(c).append(' ');
                }
            }
            CHECK.due("costumes that fit the player " + p, fit.toString(), fitting[p]);
        }
    }

    private static void aCueHasOneOfThreeStates() {
        CHECK.sentence("it is WAITING, CALLED or MISSED");
        Clockmask x = new Clockmask();
        int called = x.addCue(WEAR, 0, 0, NONE);
        int run = x.addCue(DOFF, 0, 0, called);
        int missed = x.addCue(EXIT, 1, 0, run);
        int missedToo = x.addCue(EXIT, 2, 0, missed);
        int waiting = x.addCue(EXIT, 3, 0, run);
        CHECK.due("states, all added", Scenes.states(x), "00000");
        x.call(called);
        CHECK.due("states, one called", Scenes.states(x), "10000");
        CHECK.due("run()", x.run(), 1);
        CHECK.due("states, one run", Scenes.states(x), "11000");
        x.miss(missed);
        CHECK.due("states, one missed", Scenes.states(x), "11220");
        CHECK.due("run(), none can be called", x.run(), 0);
        for (int cue : new int[] {called, run, missed, missedToo, waiting}) {
            CHECK.refused(x, "call(" + cue + ")", STATE, () -> x.call(cue));
        }
        CHECK.due("states, none called", Scenes.states(x), "11220");
        x.dress(3, 3);
        Scenes.called(x, ENTER, 3, 0);
        CHECK.due("run(), what waited long", x.run(), 1);
        CHECK.due("states then", Scenes.states(x), "112211");
    }

    private static void wearPutsTheMaskOnTheFace() {
        CHECK.sentence("and nobody wears the mask m; a wears it then");
        for (int player = 0; player < 6; player++) {
            for (int mask = 0; mask < 6; mask++) {
                Clockmask x = new Clockmask();
                int another = (player + 2) % 6;
                Scenes.called(x, WEAR, another, (mask + 1) % 6);
                Scenes.called(x, WEAR, player, mask);
                CHECK.due("maskOf(" + player + ")", x.maskOf(player), mask);
                CHECK.due("wearerOf(" + mask + ")", x.wearerOf(mask), player);
                CHECK.due("maskOf(" + another + "), another", x.maskOf(another), (mask + 1) % 6);
                CHECK.due("isOn(" + player + "), off stage as before", x.isOn(player), false);
            }
        }
    }

    private static void theWornMasksPartIsGuessed() {
        CHECK.sentence("while that player is on stage with a mask");
        Clockmask x = new Clockmask();
        x.dress(4, 5);
        CHECK.refused(x, "guess, neither", STATE, () -> x.guess(0, 4, 1));
        Scenes.called(x, ENTER, 4, 0);
        CHECK.refused(x, "guess, on stage alone", STATE, () -> x.guess(0, 4, 1));
        Scenes.called(x, WEAR, 4, 1);
        CHECK.due("guess, both", x.guess(0, 4, 1), true);
        Scenes.called(x, DOFF, 4, 0);
        Scenes.called(x, WEAR, 4, 2);
        CHECK.due("guess of another, its mask now", x.guess(1, 4, 2), true);
        Scenes.called(x, EXIT, 4, 0);
        CHECK.refused(x, "guess, a mask alone", STATE, () -> x.guess(2, 4, 2));
    }

    private static void dressPutsTheCostumeOnThePlayer() {
        CHECK.sentence("Dresses a player in a costume, in place of the one that it has on");
        for (int player = 0; player < 6; player++) {
            for (int before = player; before <= player + 2; before++) {
                for (int costume = player; costume <= player + 2; costume++) {
                    int p = player;
                    int b = before;
                    Clockmask x = new Clockmask();
                    x.dress(p, b);
                    CHECK.due("dress(" + p + ", " + costume + ")", x.dress(p, costume), b);
                    for (int other = 0; other < 6; other++) {
                        CHECK.due("costumeOf(" + other + ")", x.costumeOf(other), other == p ? costume : NONE);
                    }
                    // It is repaired if nobody has it on, as nobody has the one before on now.
                    String due = b == costume ? "IllegalStateException" : "10";
                    CHECK.due("repair(" + b + "), it was on before", Check.outcome(() -> x.repair(b)), due);
                    CHECK.due("wear(" + b + ")", x.wear(b), 0);
                }
            }
        }
    }

    private static void dressIsRefusedForWhatDoesNotFit() {
        CHECK.sentence("IllegalArgumentException if the costume does not fit");
        Clockmask x = new Clockmask();
        CHECK.refused(x, "dress(0, 3)", ARGUMENT, () -> x.dress(0, 3));
        CHECK.refused(x, "dress(1, 0)", ARGUMENT, () -> x.dress(1, 0));
        CHECK.refused(x, "dress(4, 7)", ARGUMENT, () -> x.dress(4, 7));
        CHECK.refused(x, "dress(5, 4)", ARGUMENT, () -> x.dress(5, 4));
        CHECK.sentence("IndexOutOfBoundsException as told, of the player or the costume");
        CHECK.refused(x, "dress(6, 6)", NO_SUCH, () -> x.dress(6, 6));
        CHECK.refused(x, "dress(-1, 0)", NO_SUCH, () -> x.dress(-1, 0));
        CHECK.refused(x, "dress(5, 8)", NO_SUCH, () -> x.dress(5, 8));
        CHECK.refused(x, "dress(0, -1)", NO_SUCH, () -> x.dress(0, -1));
    }

    private static void dressIsRefusedForWhatCannotBePutOn() {
        CHECK.sentence("the player is on stage, the costume is on another player, or torn");
        Clockmask x = new Clockmask();
        Scenes.wearOut(x, 3, 3, 3);
        x.dress(2, 2);
        x.dress(1, 1);
        Scenes.called(x, ENTER, 1, 0);
        CHECK.refused(x, "dress(1, 1), on stage", STATE, () -> x.dress(1, 1));
        CHECK.refused(x, "dress(0, 1), on another", STATE, () -> x.dress(0, 1));
        CHECK.refused(x, "dress(3, 3), torn", STATE, () -> x.dress(3, 3));
        CHECK.refused(x, "dress(2, 3), torn, dressed before", STATE, () -> x.dress(2, 3));
        CHECK.due("dress(2, 4)", x.dress(2, 4), 2);
        CHECK.due("dress(0, 2), off the player 2", x.dress(0, 2), NONE);
    }

    private static void repairAnswersThePurse() {
        CHECK.sentence("Repairs a costume that nobody has on");
        Clockmask x = new Clockmask();
        Scenes.wearOut(x, 0, 0, 3);
        Scenes.wearOut(x, 1, 2, 1);
        CHECK.refused(x, "repair(2), on the player 1", STATE, () -> x.repair(2));
        x.dress(1, 1);
        CHECK.sentence("that costs as much as its wear was. .. Returns the purse then");
        CHECK.due("repair(2)", x.repair(2), 9);
        CHECK.due("repair(0)", x.repair(0), 6);
        CHECK.due("repair(7), without wear", x.repair(7), 6);
        CHECK.due("purse()", x.purse(), 6);
        CHECK.due("costumeOf(0), repaired but not on", x.costumeOf(0), NONE);
        CHECK.due("endPlay(), 8 called", x.endPlay(), 14);
        CHECK.due("repair(0) in the next play", x.repair(0), 14);
    }

    private static void costumeOfTellsTheCostume() {
        CHECK.sentence("Returns the costume of a player; NONE if it is not dressed");
        Clockmask x = new Clockmask();
        for (int player = 5; player >= 0; player--) {
            CHECK.due("costumeOf(" + player + "), not dressed", x.costumeOf(player), NONE);
            x.dress(player, player + 2);
        }
        for (int player = 0; player < 6; player++) {
            CHECK.due("costumeOf(" + player + ")", x.costumeOf(player), player + 2);
            Scenes.called(x, ENTER, player, 0);
            CHECK.due("costumeOf(" + player + "), on stage", x.costumeOf(player), player + 2);
        }
    }

    private static void wearTellsTheWear() {
        CHECK.sentence("Returns the wear of a costume");
        Clockmask x = new Clockmask();
        Scenes.wearOut(x, 0, 0, 1);
        Scenes.wearOut(x, 1, 2, 2);
        Scenes.wearOut(x, 5, 7, 3);
        int[] due = {1, 0, 2, 0, 0, 0, 0, 3};
        for (int costume = 0; costume < 8; costume++) {
            CHECK.due("wear(" + costume + ")", x.wear(costume), due[costume]);
        }
        x.repair(7);
        CHECK.due("wear(7), repaired", x.wear(7), 0);
        CHECK.due("wear(2), another", x.wear(2), 2);
    }

    private static void purseTellsThePurse() {
        CHECK.sentence("Returns the purse");
        Clockmask x = new Clockmask();
        CHECK.due("purse()", x.purse(), 10);
        Scenes.wearOut(x, 2, 3, 3);
        CHECK.due("purse(), 6 called in this play", x.purse(), 10);
        x.repair(3);
        CHECK.due("purse(), repaired", x.purse(), 7);
        Scenes.missAll(x, 2);
        CHECK.due("purse(), 2 missed in this play", x.purse(), 7);
        x.endPlay();
        CHECK.due("purse(), ended", x.purse(), 11);
    }

    private static void addCueAddsACue() {
        CHECK.sentence("Adds a cue to the play");
        Clockmask x = new Clockmask();
        String before = View.of(x);
        CHECK.due("addCue(WEAR, 1, 2, -1)", x.addCue(WEAR, 1, 2, NONE), 0);
        CHECK.due("cues()", x.cues(), 1);
        CHECK.due("stateOf(0)", x.stateOf(0), WAITING);
        CHECK.due("all but the cue", View.of(x).replaceAll("cue \\d \\w+; ", ""), before);
        CHECK.sentence("kind: ENTER to SWAP");
        Clockmask y = Scenes.allOnStage();
        Scenes.called(y, EXIT, 0, 0);
        Scenes.called(y, DOFF, 1, 0);
        // The player 0 is off stage with the mask 5, the player 1 on stage without one.
        int[] other = {9, 9, 4, 9, 2};
        boolean[] canOfOne = {false, true, true, false, true};
        boolean[] canOfNull = {true, false, false, true, false};
        for (int kind = ENTER; kind <= SWAP; kind++) {
            int ofOne = y.addCue(kind, 1, other[kind], NONE);
            int ofNull = y.addCue(kind, 0, other[kind], NONE);
            CHECK.due("canCall of the kind " + kind + " for the player 1", y.canCall(ofOne), canOfOne[kind]);
            CHECK.due("canCall of the kind " + kind + " for the player 0", y.canCall(ofNull), canOfNull[kind]);
        }
    }

    private static void addCueTakesEachPlayerMaskAndCue() {
        CHECK.sentence("player: the player a");
        for (int player = 0; player < 6; player++) {
            Clockmask x = new Clockmask();
            x.addCue(WEAR, player, 3, NONE);
            x.run();
            CHECK.due("wearerOf(3)", x.wearerOf(3), player);
        }
        CHECK.sentence("other: the mask m for WEAR, the player b for SWAP");
        for (int other = 0; other < 5; other++) {
            Clockmask x = new Clockmask();
            x.addCue(WEAR, 5, other, NONE);
            x.run();
            CHECK.due("maskOf(5)", x.maskOf(5), other);
            Clockmask y = Scenes.allOnStage();
            Scenes.called(y, SWAP, 5, other);
            CHECK.due("maskOf(5), swapped", y.maskOf(5), 5 - other);
            CHECK.due("maskOf(" + other + "), swapped", y.maskOf(other), 0);
        }
        CHECK.sentence("waits: the cue for which it waits, or NONE");
        for (int waits = 0; waits < 6; waits++) {
            Clockmask x = new Clockmask();
            for (int player = 0; player < 6; player++) {
                x.addCue(WEAR, player, player, NONE);
            }
            int follower = x.addCue(DOFF, 0, 0, waits);
            int free = x.addCue(DOFF, 0, 0, NONE);
            boolean called = false;
            for (int cue = 0; cue < 6; cue++) {
                x.call(cue);
                called |= cue == waits;
                CHECK.due("canCall, it waits for " + waits + ", " + cue + " called", x.canCall(follower), called);
                CHECK.due("canCall, it waits for none", x.canCall(free), true);
            }
        }
    }

    private static void addCueIsRefusedForWhatIsNotThere() {
        CHECK.sentence("no such mask or player b where that matters, or no such cue for which to wait");
        Clockmask x = new Clockmask();
        CHECK.refused(x, "addCue(WEAR, 0, 6, -1)", NO_SUCH, () -> x.addCue(WEAR, 0, 6, NONE));
        CHECK.refused(x, "addCue(SWAP, 0, 6, -1)", NO_SUCH, () -> x.addCue(SWAP, 0, 6, NONE));
        CHECK.refused(x, "addCue(WEAR, 0, -1, -1)", NO_SUCH, () -> x.addCue(WEAR, 0, NONE, NONE));
        CHECK.refused(x, "addCue(SWAP, 0, -1, -1)", NO_SUCH, () -> x.addCue(SWAP, 0, NONE, NONE));
        for (int kind = ENTER; kind <= SWAP; kind++) {
            int k = kind;
            CHECK.refused(x, "addCue of kind " + k + " waits for itself", NO_SUCH, () -> x.addCue(k, 0, 1, 0));
            CHECK.refused(x, "addCue of kind " + k + " waits for -2", NO_SUCH, () -> x.addCue(k, 0, 1, -2));
        }
        CHECK.due("addCue(EXIT, 0, 6, -1), where it does not matter", x.addCue(EXIT, 0, 6, NONE), 0);
        CHECK.due("addCue(SWAP, 0, 5, 0)", x.addCue(SWAP, 0, 5, 0), 1);
    }

    private static void canCallTellsWhetherItCan() {
        CHECK.sentence("Returns whether a cue can be called now");
        Clockmask x = new Clockmask();
        int enter = x.addCue(ENTER, 0, 0, NONE);
        int exit = x.addCue(EXIT, 0, 0, NONE);
        CHECK.due("canCall(enter), not dressed", x.canCall(enter), false);
        x.dress(0, 0);
        CHECK.due("canCall(enter), dressed now", x.canCall(enter), true);
        CHECK.due("canCall(enter), asked again", x.canCall(enter), true);
        CHECK.due("canCall(exit), off stage", x.canCall(exit), false);
        x.call(enter);
        CHECK.due("canCall(enter), called", x.canCall(enter), false);
        CHECK.due("canCall(exit), on stage now", x.canCall(exit), true);
        x.miss(exit);
        CHECK.due("canCall(exit), missed", x.canCall(exit), false);
    }

    private static void callCallsACue() {
        CHECK.sentence("Calls a cue");
        Clockmask x = new Clockmask();
        x.dress(4, 4);
        x.addCue(WEAR, 4, 0, NONE);
        x.addCue(ENTER, 4, 0, NONE);
        x.addCue(WEAR, 3, 0, NONE);
        CHECK.due("call(1)", x.call(1), 1);
        CHECK.due("states", Scenes.states(x), "010");
        CHECK.due("isOn(4)", x.isOn(4), true);
        CHECK.due("maskOf(4), the cue 0 is not called by that", x.maskOf(4), NONE);
        CHECK.due("call(2)", x.call(2), 2);
        CHECK.due("states", Scenes.states(x), "011");
        CHECK.due("wearerOf(0)", x.wearerOf(0), 3);
    }

    private static void callIsRefusedForWhatCannotBeCalled() {
        CHECK.sentence("IllegalStateException if it cannot be called");
        Clockmask x = Scenes.allOnStage();
        int follower = x.addCue(EXIT, 0, 0, x.addCue(ENTER, 0, 0, NONE));
        int missed = x.addCue(EXIT, 0, 0, NONE);
        x.miss(missed);
        for (int cue = 0; cue < x.cues(); cue++) {
            int c = cue;
            CHECK.due("canCall(" + c + ")", x.canCall(c), false);
            CHECK.refused(x, "call(" + c + ")", STATE, () -> x.call(c));
        }
        CHECK.due("run()", x.run(), 0);
        CHECK.due("stateOf(follower)", x.stateOf(follower), WAITING);
        CHECK.due("isOn(0)", x.isOn(0), true);
    }

    private static void stateOfTellsTheState() {
        CHECK.sentence("Returns the state of a cue");
        for (int cue = 0; cue < 24; cue++) {
            Clockmask x = new Clockmask();
            while (x.cues() < 24) {
                x.addCue(WEAR, 0, 0, NONE);
            }
            int missed = (cue + 7) % 24;
            x.call(cue);
            x.miss(missed);
            for (int other = 0; other < 24; other++) {
                int due = other == cue ? CALLED : other == missed ? MISSED : WAITING;
                CHECK.due("stateOf(" + other + ")", x.stateOf(other), due);
            }
        }
    }

    private static void maskOfTellsTheMask() {
        CHECK.sentence("Returns the mask of a player; NONE if it wears none");
        Clockmask x = new Clockmask();
        int[] masks = {3, NONE, 5, 0, NONE, 1};
        for (int player = 0; player < 6; player++) {
            if (masks[player] != NONE) {
                Scenes.called(x, WEAR, player, masks[player]);
            }
        }
        for (int player = 0; player < 6; player++) {
            CHECK.due("maskOf(" + player + ")", x.maskOf(player), masks[player]);
            CHECK.due("maskByCues(" + player + ")", x.maskByCues(player), masks[player]);
        }
        Scenes.called(x, DOFF, 3, 0);
        CHECK.due("maskOf(3), doffed", x.maskOf(3), NONE);
        CHECK.due("maskOf(2), another", x.maskOf(2), 5);
    }

    private static void isOnTellsWhoIsOnStage() {
        CHECK.sentence("Returns whether a player is on stage");
        Clockmask x = new Clockmask();
        for (int player = 0; player < 6; player++) {
            x.dress(player, player + 1);
        }
        boolean[] on = new boolean[6];
        for (int player : new int[] {4, 1, 5, 1, 0, 5, 3, 4, 2}) {
            Scenes.called(x, on[player] ? EXIT : ENTER, player, 0);
            on[player] = !on[player];
            for (int other = 0; other < 6; other++) {
                CHECK.due("isOn(" + other + ") after a cue of " + player, x.isOn(other), on[other]);
            }
        }
    }

    private static void guessTellsWhetherItIsRight() {
        CHECK.sentence("Lets a guesser guess the part of a player. .. Returns true if it is right");
        for (int guesser = 0; guesser < 3; guesser++) {
            for (int player = 0; player < 6; player++) {
                for (int part = 0; part < 6; part++) {
                    Clockmask x = Scenes.allOnStage();
                    String before = View.of(x).replaceAll("points .*?; ", "");
                    CHECK.due("guess(" + guesser + ", " + player + ", " + part + ")",
                        x.guess(guesser, player, part), part == 5 - player);
                    CHECK.due("all but the points", View.of(x).replaceAll("points .*?; ", ""), before);
                }
            }
        }
        CHECK.sentence("of the guesser, the player, or the mask that hides the part");
        Clockmask y = Scenes.allOnStage();
        CHECK.refused(y, "guess(3, 0, 5)", NO_SUCH, () -> y.guess(3, 0, 5));
        CHECK.refused(y, "guess(0, 6, 5)", NO_SUCH, () -> y.guess(0, 6, 5));
        CHECK.refused(y, "guess(0, 0, 6)", NO_SUCH, () -> y.guess(0, 0, 6));
    }

    private static void guessIsRefusedOnceItIsMade() {
        CHECK.sentence("or the guesser has guessed its part in this play");
        Clockmask x = Scenes.allOnStage();
        x.guess(1, 2, 3);
        x.guess(1, 3, 3);
        CHECK.refused(x, "guess(1, 2, 3), right before", STATE, () -> x.guess(1, 2, 3));
        CHECK.refused(x, "guess(1, 3, 2), wrong before", STATE, () -> x.guess(1, 3, 2));
        CHECK.due("guess(1, 4, 1), of another player", x.guess(1, 4, 1), true);
        CHECK.due("guess(2, 3, 2), of another guesser", x.guess(2, 3, 2), true);
        CHECK.due("points(1)", x.points(1), 5);
    }

    private static void pointsTellThePoints() {
        CHECK.sentence("Returns the points of a guesser");
        Clockmask x = Scenes.allOnStage();
        int[] due = new int[3];
        for (int guesser : new int[] {2, 0, 1}) {
            for (int player = 0; player < 2 * guesser + 2; player++) {
                boolean right = player > guesser;
                x.guess(guesser, player, right ? 5 - player : player);
                due[guesser] += right ? 3 : -1;
            }
            for (int other = 0; other < 3; other++) {
                CHECK.due("points(" + other + ")", x.points(other), due[other]);
            }
        }
        x.endPlay();
        for (int guesser = 0; guesser < 3; guesser++) {
            CHECK.due("points(" + guesser + "), the next play", x.points(guesser), due[guesser]);
        }
    }

    private static void endPlayEndsThePlay() {
        CHECK.sentence("Ends the play .. Returns the purse then");
        Clockmask x = Scenes.allOnStage();
        x.guess(0, 0, 5);
        Scenes.missAll(x, 5);
        CHECK.due("endPlay(), 12 called and 5 missed", x.endPlay(), 17);
        CHECK.due("purse()", x.purse(), 17);
        CHECK.due("plays()", x.plays(), 1);
        CHECK.due("endPlay(), no cues", x.endPlay(), 17);
        CHECK.due("plays()", x.plays(), 2);
        CHECK.sentence("the next play begins without cues and guesses");
        CHECK.due("cues()", x.cues(), 0);
        Scenes.masked(x, 0, 5);
        CHECK.due("cues()", x.cues(), 2);
        CHECK.due("guess(0, 0, 5), as in the play before", x.guess(0, 0, 5), true);
        CHECK.due("call in the next play", Scenes.called(x, DOFF, 0, 0), 3);
        CHECK.due("endPlay(), 3 called", x.endPlay(), 20);
    }

    private static void questionsChangeNothing() {
        CHECK.sentence("Nothing is promised beyond the answers and state changes described above");
        Clockmask[] theatres = {new Clockmask(), Scenes.allOnStage(), Scenes.full(), Scenes.chain(24)};
        int[] runs = {0, 0, 2, 24};
        for (int i = 0; i < theatres.length; i++) {
            Clockmask x = theatres[i];
            // A view asks every question once.
            String first = View.of(x);
            for (int again = 0; again < 3; again++) {
                CHECK.due("all questions again", View.of(x), first);
            }
            CHECK.due("run() after the questions", x.run(), runs[i]);
            CHECK.due("plays()", x.plays(), 0);
        }
    }
}
