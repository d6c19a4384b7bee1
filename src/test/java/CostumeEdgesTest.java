/** Promises 1 to 6: each sentence on costumes and the purse that names a boundary case. */
public final class CostumeEdgesTest {
    private static final int ENTER = Clockmask.ENTER;
    private static final int EXIT = Clockmask.EXIT;
    private static final Class<IndexOutOfBoundsException> NO_SUCH = IndexOutOfBoundsException.class;
    private static final Class<IllegalArgumentException> ARGUMENT = IllegalArgumentException.class;
    private static final Class<IllegalStateException> STATE = IllegalStateException.class;

    private static final Check CHECK = new Check("CostumeEdgesTest");

    public static void main(String[] args) {
        aNewObjectHasNothingOn();
        sizesDifferByOneAtMost();
        dressAnswersTheCostumeBefore();
        aCostumeIsOnOnePlayerAtMost();
        noPlayerOnStageIsDressed();
        aTornCostumeIsNotPutOn();
        dressThrowsTheFirstThatIsNamed();
        aRefusedDressLeavesAllAsItWas();
        onlyAnExitWears();
        theThirdExitTears();
        repairCostsTheWear();
        thePurseHasJustEnough();
        thePurseHasLess();
        aCostumeOnSomebodyIsNotRepaired();
        repairThrowsTheFirstThatIsNamed();
        CHECK.end();
    }

    private static void aNewObjectHasNothingOn() {
        CHECK.sentence("Begins with a play without cues");
        CHECK.due("cues()", new Clockmask().cues(), 0);
        CHECK.due("endPlay(), nothing waits", new Clockmask().endPlay(), 10);
        CHECK.sentence("A player is dressed in one costume, or in none, as at first");
        Clockmask x = new Clockmask();
        for (int player = 0; player < 6; player++) {
            CHECK.due("costumeOf(" + player + ")", x.costumeOf(player), Clockmask.NONE);
        }
        CHECK.sentence("It has some wear, 0 at first");
        for (int costume = 0; costume < 8; costume++) {
            CHECK.due("wear(" + costume + ")", x.wear(costume), 0);
        }
        CHECK.sentence("The purse has 10 at first");
        CHECK.due("purse()", x.purse(), 10);
    }

    private static void sizesDifferByOneAtMost() {
        CHECK.sentence("A costume fits a player if their sizes differ by at most 1");
        for (int player = 0; player < 6; player++) {
            int p = player;
            for (int size = p - 1; size <= p + 1; size++) {
                CHECK.due("dress(" + p + ", size " + size + ")", new Clockmask().dress(p, size + 1), -1);
            }
            Clockmask x = new Clockmask();
            if (p - 2 + 1 >= 0) {
                CHECK.refused(x, "dress(" + p + ", 2 too small)", ARGUMENT, () -> x.dress(p, p - 2 + 1));
            }
            if (p + 2 + 1 <= 7) {
                CHECK.refused(x, "dress(" + p + ", 2 too large)", ARGUMENT, () -> x.dress(p, p + 2 + 1));
            }
        }
        Clockmask y = new Clockmask();
        CHECK.refused(y, "dress(0, 7), far too large", ARGUMENT, () -> y.dress(0, 7));
        CHECK.refused(y, "dress(5, 0), far too small", ARGUMENT, () -> y.dress(5, 0));
    }

    private static void dressAnswersTheCostumeBefore() {
        CHECK.sentence("Returns the costume that it had on; NONE if it had none");
        Clockmask x = new Clockmask();
        CHECK.due("dress(0, 0)", x.dress(0, 0), Clockmask.NONE);
        CHECK.due("dress(0, 1) after the costume 0", x.dress(0, 1), 0);
        CHECK.due("dress(0, 1) again", x.dress(0, 1), 1);
        CHECK.due("dress(5, 7)", x.dress(5, 7), Clockmask.NONE);
        CHECK.due("dress(5, 6) after the costume 7", x.dress(5, 6), 7);
        CHECK.due("costumeOf(5)", x.costumeOf(5), 6);
        Scenes.wearOut(x, 3, 3, 3);
        CHECK.due("dress(3, 4) after its costume was torn", x.dress(3, 4), Clockmask.NONE);
    }

    private static void aCostumeIsOnOnePlayerAtMost() {
        CHECK.sentence("a costume is on one player at the most");
        for (int costume = 0; costume < 8; costume++) {
            int c = costume;
            int lowest = Math.max(0, c - 2);
            int highest = Math.min(5, c);
            for (int wearer = lowest; wearer <= highest; wearer++) {
                Clockmask x = new Clockmask();
                x.dress(wearer, c);
                for (int other = lowest; other <= highest; other++) {
                    int p = other;
                    if (p != wearer) {
                        CHECK.refused(x, "dress(" + p + ", " + c + ")", STATE, () -> x.dress(p, c));
                    }
                }
                CHECK.due("dress(" + wearer + ", " + c + ") again", x.dress(wearer, c), c);
            }
        }
        CHECK.sentence("in place of the one that it has on");
        Clockmask y = new Clockmask();
        y.dress(1, 1);
        y.dress(1, 2);
        CHECK.due("dress(0, 1), taken off by the player 1", y.dress(0, 1), -1);
        CHECK.refused(y, "dress(1, 1), on the player 0 now", STATE, () -> y.dress(1, 1));
        CHECK.due("repair(3), that nobody has on", y.repair(3), 10);
    }

    private static void noPlayerOnStageIsDressed() {
        CHECK.sentence("IllegalStateException if the player is on stage");
        for (int player = 0; player < 6; player++) {
            int p = player;
            Clockmask x = new Clockmask();
            x.dress(p, p + 1);
            x.addCue(ENTER, p, 0, -1);
            CHECK.due("dress, its cue waits", x.dress(p, p), p + 1);
            x.call(0);
            CHECK.refused(x, "dress(" + p + ", a new one)", STATE, () -> x.dress(p, p + 2));
            CHECK.refused(x, "dress(" + p + ", the one on)", STATE, () -> x.dress(p, p));
            CHECK.due("dress of one that is off", x.dress((p + 3) % 6, (p + 3) % 6), -1);
            Scenes.called(x, EXIT, p, 0);
            CHECK.due("dress, off stage again", x.dress(p, p + 2), p);
            Scenes.called(x, ENTER, p, 0);
            x.endPlay();
            CHECK.due("dress after the play", x.dress(p, p + 1), p + 2);
        }
    }

    private static void aTornCostumeIsNotPutOn() {
        CHECK.sentence("with 3 it is torn");
        for (int costume = 0; costume < 8; costume++) {
            int c = costume;
            int player = Math.min(c, 5);
            for (int wear = 0; wear <= 2; wear++) {
                Clockmask x = new Clockmask();
                Scenes.wearOut(x, player, c, wear);
                CHECK.due("wear(" + c + ")", x.wear(c), wear);
                CHECK.due("dress with wear " + wear, x.dress(player, c), c);
            }
            Clockmask y = new Clockmask();
            Scenes.wearOut(y, player, c, 3);
            CHECK.due("wear(" + c + ")", y.wear(c), 3);
            CHECK.refused(y, "dress with wear 3", STATE, () -> y.dress(player, c));
            y.endPlay();
            CHECK.refused(y, "dress with wear 3, the next play", STATE, () -> y.dress(player, c));
            y.repair(c);
            CHECK.due("dress with wear 0", y.dress(player, c), -1);
        }
    }

    private static void dressThrowsTheFirstThatIsNamed() {
        CHECK.sentence("If several exceptions apply to a call, the one that its throws clause names first is thrown");
        Clockmask x = new Clockmask();
        Scenes.wearOut(x, 0, 1, 3);
        Scenes.wearOut(x, 5, 6, 3);
        x.dress(0, 0);
        x.dress(5, 7);
        Scenes.called(x, ENTER, 0, 0);
        Scenes.called(x, ENTER, 5, 0);
        CHECK.refused(x, "dress(0, -1), on stage", NO_SUCH, () -> x.dress(0, -1));
        CHECK.refused(x, "dress(0, 8), does not fit, on stage", NO_SUCH, () -> x.dress(0, 8));
        CHECK.refused(x, "dress(5, -1), does not fit, on stage", NO_SUCH, () -> x.dress(5, -1));
        CHECK.refused(x, "dress(5, 8), on stage", NO_SUCH, () -> x.dress(5, 8));
        CHECK.refused(x, "dress(-1, 0), on another", NO_SUCH, () -> x.dress(-1, 0));
        CHECK.refused(x, "dress(6, 7), on another", NO_SUCH, () -> x.dress(6, 7));
        CHECK.refused(x, "dress(6, 1), does not fit, torn", NO_SUCH, () -> x.dress(6, 1));
        CHECK.refused(x, "dress(-1, 6), does not fit, torn", NO_SUCH, () -> x.dress(-1, 6));
        CHECK.refused(x, "dress(6, 8), neither is there", NO_SUCH, () -> x.dress(6, 8));
        CHECK.refused(x, "dress(0, 3), does not fit, on stage", ARGUMENT, () -> x.dress(0, 3));
        CHECK.refused(x, "dress(3, 0), does not fit, on another", ARGUMENT, () -> x.dress(3, 0));
        CHECK.refused(x, "dress(2, 6), does not fit, torn", ARGUMENT, () -> x.dress(2, 6));
        CHECK.refused(x, "dress(0, 7), not fit, on stage, on another", ARGUMENT, () -> x.dress(0, 7));
        CHECK.refused(x, "dress(5, 1), not fit, on stage, torn", ARGUMENT, () -> x.dress(5, 1));
        CHECK.refused(x, "dress(0, 1), on stage and torn", STATE, () -> x.dress(0, 1));
    }

    private static void aRefusedDressLeavesAllAsItWas() {
        CHECK.sentence("a call that throws changes nothing");
        Clockmask x = new Clockmask();
        x.dress(2, 2);
        x.dress(3, 4);
        CHECK.refused(x, "dress(2, 4) on the player 3", STATE, () -> x.dress(2, 4));
        CHECK.refused(x, "dress(2, 5) that does not fit", ARGUMENT, () -> x.dress(2, 5));
        CHECK.refused(x, "dress(2, 8) that is not there", NO_SUCH, () -> x.dress(2, 8));
        CHECK.due("dress(2, 3), the one before", x.dress(2, 3), 2);
        CHECK.refused(x, "dress(4, 4), on the player 3 as before", STATE, () -> x.dress(4, 4));
        CHECK.due("dress(3, 4)", x.dress(3, 4), 4);
    }

    private static void onlyAnExitWears() {
        CHECK.sentence("EXIT a: it is on stage; it is off stage then, and its costume has 1 more wear");
        Clockmask x = Scenes.allOnStage();
        for (int costume = 0; costume < 8; costume++) {
            CHECK.due("wear(" + costume + ") after ENTER and WEAR", x.wear(costume), 0);
        }
        Scenes.called(x, Clockmask.SWAP, 0, 5);
        Scenes.called(x, Clockmask.DOFF, 0, 0);
        x.miss(x.addCue(EXIT, 4, 0, -1));
        Scenes.called(x, EXIT, 2, 0);
        for (int costume = 0; costume < 8; costume++) {
            CHECK.due("wear(" + costume + ") after one exit", x.wear(costume), costume == 3 ? 1 : 0);
        }
        x.endPlay();
        for (int costume = 0; costume < 8; costume++) {
            CHECK.due("wear(" + costume + ") after the play", x.wear(costume), costume == 3 ? 1 : 0);
        }
    }

    private static void theThirdExitTears() {
        CHECK.sentence("if it is torn by that, the player is not dressed any more");
        for (int player = 0; player < 6; player++) {
            Clockmask x = new Clockmask();
            x.dress(player, player + 1);
            for (int exit = 1; exit <= 3; exit++) {
                Scenes.called(x, ENTER, player, 0);
                Scenes.called(x, EXIT, player, 0);
                CHECK.due("wear after exit " + exit, x.wear(player + 1), exit);
                CHECK.due("costumeOf after exit " + exit, x.costumeOf(player), exit < 3 ? player + 1 : -1);
                CHECK.due("isOn after exit " + exit, x.isOn(player), false);
            }
            int next = x.addCue(ENTER, player, 0, -1);
            CHECK.due("canCall of ENTER, not dressed any more", x.canCall(next), false);
            x.dress(player, player);
            CHECK.due("canCall of ENTER, dressed once more", x.canCall(next), true);
        }
        Clockmask y = new Clockmask();
        Scenes.wearOut(y, 0, 1, 2);
        y.dress(0, 0);
        Scenes.wearOut(y, 1, 1, 1);
        CHECK.due("costumeOf(1), torn by its first exit", y.costumeOf(1), -1);
        CHECK.due("costumeOf(0)", y.costumeOf(0), 0);
    }

    private static void repairCostsTheWear() {
        CHECK.sentence("its wear is 0 then; that costs as much as its wear was");
        for (int costume = 0; costume < 8; costume++) {
            int player = Math.min(costume, 5);
            for (int wear = 0; wear <= 3; wear++) {
                Clockmask x = wornOff(player, costume, wear);
                CHECK.due("wear(" + costume + ")", x.wear(costume), wear);
                CHECK.due("repair with wear " + wear, x.repair(costume), 10 - wear);
                CHECK.due("wear then", x.wear(costume), 0);
                CHECK.due("purse() then", x.purse(), 10 - wear);
                CHECK.due("repair again", x.repair(costume), 10 - wear);
            }
        }
        Clockmask y = wornOff(0, 1, 2);
        Scenes.wearOut(y, 4, 4, 3);
        CHECK.due("repair(1)", y.repair(1), 8);
        CHECK.due("wear(4), another one", y.wear(4), 3);
    }

    private static void thePurseHasJustEnough() {
        CHECK.sentence("IllegalStateException if .. the purse has less");
        for (int wear = 0; wear <= 3; wear++) {
            Clockmask x = new Clockmask();
            Scenes.purseDownTo(x, wear);
            wearAndTakeOff(x, 2, 3, wear);
            CHECK.due("repair with wear and purse " + wear, x.repair(3), 0);
            CHECK.due("purse()", x.purse(), 0);
            CHECK.due("wear(3)", x.wear(3), 0);
            CHECK.due("repair(3) for nothing, with an empty purse", x.repair(3), 0);
        }
    }

    private static void thePurseHasLess() {
        CHECK.sentence("IllegalStateException if .. the purse has less");
        for (int wear = 1; wear <= 3; wear++) {
            for (int purse = 0; purse < wear; purse++) {
                Clockmask x = new Clockmask();
                Scenes.purseDownTo(x, purse);
                wearAndTakeOff(x, 2, 3, wear);
                CHECK.refused(x, "repair with wear " + wear + " and purse " + purse, STATE, () -> x.repair(3));
                // The exits of this play, and the entrances, fill the purse.
                CHECK.due("endPlay()", x.endPlay(), purse + 2 * wear);
                CHECK.due("repair(3) then", x.repair(3), purse + wear);
            }
        }
    }

    private static void aCostumeOnSomebodyIsNotRepaired() {
        CHECK.sentence("IllegalStateException if some player has it on");
        for (int costume = 0; costume < 8; costume++) {
            int c = costume;
            for (int player = Math.max(0, c - 2); player <= Math.min(5, c); player++) {
                Clockmask x = new Clockmask();
                x.dress(player, c);
                CHECK.refused(x, "repair(" + c + ") without wear", STATE, () -> x.repair(c));
                Scenes.called(x, ENTER, player, 0);
                CHECK.refused(x, "repair(" + c + ") on stage", STATE, () -> x.repair(c));
                Scenes.called(x, EXIT, player, 0);
                CHECK.refused(x, "repair(" + c + ") with wear 1", STATE, () -> x.repair(c));
                x.endPlay();
                CHECK.refused(x, "repair(" + c + ") after the play", STATE, () -> x.repair(c));
                x.dress(player, c == player ? c + 1 : player);
                CHECK.due("repair(" + c + ") that is off", x.repair(c), 11);
            }
        }
    }

    private static void repairThrowsTheFirstThatIsNamed() {
        CHECK.sentence("If several exceptions apply to a call, the one that its throws clause names first is thrown");
        Clockmask x = new Clockmask();
        Scenes.purseDownTo(x, 0);
        Scenes.wearOut(x, 5, 7, 1);
        CHECK.refused(x, "repair(8) with an empty purse", NO_SUCH, () -> x.repair(8));
        CHECK.refused(x, "repair(-1), as costumeOf answers for none", NO_SUCH, () -> x.repair(-1));
        CHECK.refused(x, "repair(7) on a player, the purse empty", STATE, () -> x.repair(7));
    }

    private static Clockmask wornOff(int player, int costume, int wear) {
        Clockmask x = new Clockmask();
        wearAndTakeOff(x, player, costume, wear);
        return x;
    }

    private static void wearAndTakeOff(Clockmask x, int player, int costume, int wear) {
        Scenes.wearOut(x, player, costume, wear);
        x.dress(player, costume == player ? costume + 1 : player);
    }
}
