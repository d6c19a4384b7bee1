/** Promises 1 to 6: a new object, dress, repair, costumeOf, wear, purse. */
public final class CostumeTest {
    private static final Class<IndexOutOfBoundsException> NO_SUCH = IndexOutOfBoundsException.class;
    private static final Class<IllegalArgumentException> ARGUMENT = IllegalArgumentException.class;
    private static final Class<IllegalStateException> STATE = IllegalStateException.class;
    private static final int[] NO_PLAYERS = {-1, 6, 7, Integer.MIN_VALUE, Integer.MAX_VALUE};
    private static final int[] NO_COSTUMES = {-1, 8, 9, Integer.MIN_VALUE, Integer.MAX_VALUE};

    private static final Check CHECK = new Check("CostumeTest");

    public static void main(String[] args) {
        aNewObjectIsAtTheBeginning();
        aCostumeFitsByItsSize();
        dressingTakesThePlaceOfTheCostumeBefore();
        dressingIsRefused();
        dressingRefusesTheFirstReasonNamed();
        aCostumeWearsAndIsTorn();
        eachCostumeWearsAlone();
        repairCostsTheWear();
        repairIsRefused();
        costumesAskedForMustBe();
        CHECK.end();
    }

    private static void aNewObjectIsAtTheBeginning() {
        Clockmask x = new Clockmask();
        CHECK.due("cues()", x.cues(), 0);
        CHECK.due("purse()", x.purse(), 10);
        CHECK.due("plays()", x.plays(), 0);
        CHECK.due("run()", x.run(), 0);
        for (int player = 0; player < 6; player++) {
            CHECK.due("costumeOf", x.costumeOf(player), -1);
            CHECK.due("maskOf", x.maskOf(player), -1);
            CHECK.due("maskByCues", x.maskByCues(player), -1);
            CHECK.due("wearerOf", x.wearerOf(player), -1);
            CHECK.due("isOn", x.isOn(player), false);
        }
        for (int costume = 0; costume < 8; costume++) {
            CHECK.due("wear", x.wear(costume), 0);
        }
        for (int guesser = 0; guesser < 3; guesser++) {
            CHECK.due("points", x.points(guesser), 0);
        }
        CHECK.due("endPlay() of a play without cues", x.endPlay(), 10);
        CHECK.due("plays() then", x.plays(), 1);
    }

    private static void aCostumeFitsByItsSize() {
        for (int player = 0; player < 6; player++) {
            for (int costume = 0; costume < 8; costume++) {
                Clockmask x = new Clockmask();
                int p = player;
                int c = costume;
                String call = "dress(" + p + ", " + c + ")";
                if (c == p || c == p + 1 || c == p + 2) {
                    CHECK.due(call, x.dress(p, c), -1);
                    CHECK.due("costumeOf after " + call, x.costumeOf(p), c);
                } else {
                    CHECK.refused(x, call, ARGUMENT, () -> x.dress(p, c));
                }
            }
        }
    }

    private static void dressingTakesThePlaceOfTheCostumeBefore() {
        Clockmask x = new Clockmask();
        CHECK.due("dress(2, 3)", x.dress(2, 3), -1);
        CHECK.due("dress(2, 3) again", x.dress(2, 3), 3);
        CHECK.due("dress(2, 4)", x.dress(2, 4), 3);
        CHECK.due("costumeOf(2)", x.costumeOf(2), 4);
        CHECK.due("dress(3, 3), free again", x.dress(3, 3), -1);
        CHECK.due("costumeOf(3)", x.costumeOf(3), 3);
        CHECK.due("costumeOf(1)", x.costumeOf(1), -1);
    }

    private static void dressingIsRefused() {
        Clockmask x = new Clockmask();
        for (int player : NO_PLAYERS) {
            CHECK.refused(x, "dress(" + player + ", 0)", NO_SUCH, () -> x.dress(player, 0));
        }
        for (int costume : NO_COSTUMES) {
            CHECK.refused(x, "dress(0, " + costume + ")", NO_SUCH, () -> x.dress(0, costume));
        }
        x.dress(2, 3);
        CHECK.refused(x, "dress(1, 3) on another player", STATE, () -> x.dress(1, 3));
        CHECK.refused(x, "dress(3, 3) on another player", STATE, () -> x.dress(3, 3));
        x.addCue(Clockmask.ENTER, 2, 0, -1);
        x.run();
        CHECK.refused(x, "dress(2, 2) on stage", STATE, () -> x.dress(2, 2));
        CHECK.refused(x, "dress(2, 3) on stage", STATE, () -> x.dress(2, 3));
        Clockmask y = new Clockmask();
        Scenes.wearOut(y, 0, 1, 3);
        CHECK.refused(y, "dress(0, 1) torn", STATE, () -> y.dress(0, 1));
        CHECK.refused(y, "dress(1, 1) torn", STATE, () -> y.dress(1, 1));
    }

    private static void dressingRefusesTheFirstReasonNamed() {
        Clockmask x = new Clockmask();
        x.dress(0, 0);
        x.dress(5, 7);
        x.addCue(Clockmask.ENTER, 0, 0, -1);
        x.run();
        CHECK.refused(x, "dress(0, 8) on stage", NO_SUCH, () -> x.dress(0, 8));
        CHECK.refused(x, "dress(6, 0) that another has on", NO_SUCH, () -> x.dress(6, 0));
        CHECK.refused(x, "dress(0, 3) on stage, does not fit", ARGUMENT, () -> x.dress(0, 3));
        CHECK.refused(x, "dress(1, 7) on another, does not fit", ARGUMENT, () -> x.dress(1, 7));
        Clockmask y = new Clockmask();
        Scenes.wearOut(y, 0, 0, 3);
        CHECK.refused(y, "dress(5, 0) torn, does not fit", ARGUMENT, () -> y.dress(5, 0));
    }

    private static void aCostumeWearsAndIsTorn() {
        Clockmask x = new Clockmask();
        Scenes.wearOut(x, 4, 5, 1);
        CHECK.due("wear(5) after one exit", x.wear(5), 1);
        CHECK.due("costumeOf(4) after one exit", x.costumeOf(4), 5);
        Scenes.wearOut(x, 4, 5, 1);
        CHECK.due("wear(5) after two exits", x.wear(5), 2);
        CHECK.due("costumeOf(4) after two exits", x.costumeOf(4), 5);
        CHECK.due("dress(4, 4), off with the worn one", x.dress(4, 4), 5);
        CHECK.due("dress(3, 5), worn but not torn", x.dress(3, 5), -1);
        Scenes.wearOut(x, 3, 5, 1);
        CHECK.due("wear(5) after three exits", x.wear(5), 3);
        CHECK.due("costumeOf(3) after three exits", x.costumeOf(3), -1);
        CHECK.due("costumeOf(4), another costume", x.costumeOf(4), 4);
        CHECK.due("wear(4)", x.wear(4), 0);
    }

    private static void eachCostumeWearsAlone() {
        for (int costume = 0; costume < 8; costume++) {
            Clockmask x = new Clockmask();
            int player = Math.min(costume, 5);
            Scenes.wearOut(x, player, costume, 2);
            CHECK.due("costumeOf(" + player + ") after two exits", x.costumeOf(player), costume);
            Scenes.wearOut(x, player, costume, 1);
            CHECK.due("costumeOf(" + player + ") after three exits", x.costumeOf(player), -1);
            for (int other = 0; other < 8; other++) {
                CHECK.due("wear(" + other + ")", x.wear(other), other == costume ? 3 : 0);
            }
        }
    }

    private static void repairCostsTheWear() {
        Clockmask x = new Clockmask();
        CHECK.due("repair(0) of a new costume", x.repair(0), 10);
        Scenes.wearOut(x, 0, 1, 3);
        CHECK.due("repair(1) of a torn costume", x.repair(1), 7);
        CHECK.due("wear(1)", x.wear(1), 0);
        CHECK.due("purse()", x.purse(), 7);
        CHECK.due("dress(0, 1), mended", x.dress(0, 1), -1);
        Scenes.wearOut(x, 0, 1, 2);
        x.dress(0, 0);
        CHECK.due("repair(1) of a costume with wear 2", x.repair(1), 5);
        CHECK.due("wear(1)", x.wear(1), 0);
    }

    private static void repairIsRefused() {
        Clockmask x = new Clockmask();
        for (int costume : NO_COSTUMES) {
            CHECK.refused(x, "repair(" + costume + ")", NO_SUCH, () -> x.repair(costume));
        }
        x.dress(5, 7);
        CHECK.refused(x, "repair(7) that somebody has on", STATE, () -> x.repair(7));
        Scenes.purseDownTo(x, 2);
        Scenes.wearOut(x, 0, 1, 3);
        CHECK.refused(x, "repair(1) for 3 with a purse of 2", STATE, () -> x.repair(1));
        CHECK.due("repair(2) that costs nothing", x.repair(2), 2);
        Clockmask y = new Clockmask();
        Scenes.purseDownTo(y, 3);
        Scenes.wearOut(y, 0, 1, 3);
        CHECK.due("repair(1) for 3 with a purse of 3", y.repair(1), 0);
        CHECK.due("purse()", y.purse(), 0);
        CHECK.due("repair(1) with an empty purse", y.repair(1), 0);
    }

    private static void costumesAskedForMustBe() {
        Clockmask x = new Clockmask();
        for (int player : NO_PLAYERS) {
            CHECK.refused(x, "costumeOf(" + player + ")", NO_SUCH, () -> x.costumeOf(player));
        }
        for (int costume : NO_COSTUMES) {
            CHECK.refused(x, "wear(" + costume + ")", NO_SUCH, () -> x.wear(costume));
        }
    }
}
