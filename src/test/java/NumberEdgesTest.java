/** Each number that a call takes: the last ones that there are, and the first that there are not, on both sides. */
public final class NumberEdgesTest {
    private static final int ENTER = Clockmask.ENTER;
    private static final int EXIT = Clockmask.EXIT;
    private static final int WEAR = Clockmask.WEAR;
    private static final int DOFF = Clockmask.DOFF;
    private static final int SWAP = Clockmask.SWAP;
    private static final Class<IndexOutOfBoundsException> NO_SUCH = IndexOutOfBoundsException.class;
    private static final Class<IllegalArgumentException> ARGUMENT = IllegalArgumentException.class;

    private static final Check CHECK = new Check("NumberEdgesTest");

    private interface Asked {
        Object answer(int number);
    }

    public static void main(String[] args) {
        playersAreZeroToFive();
        masksAreZeroToFive();
        costumesAreZeroToSeven();
        guessersAreZeroToTwo();
        cuesAreThoseOfThePlay();
        cuesToWaitForAreThoseOfThePlay();
        kindsAreEnterToSwap();
        otherMayBeAnythingWhereItDoesNotMatter();
        numbersThatWouldWrapAreNone();
        CHECK.end();
    }

    private static void playersAreZeroToFive() {
        CHECK.sentence("There are the players 0 to 5");
        due(0, 5, "dress(n, n + 1)", n -> -1, n -> new Clockmask().dress(n, n + 1));
        due(0, 5, "costumeOf(n)", n -> n + 1, n -> Scenes.full().costumeOf(n));
        for (int kind : new int[] {ENTER, EXIT, WEAR, DOFF}) {
            due(0, 5, "addCue(" + kind + ", n, 0, -1)", n -> 0, n -> new Clockmask().addCue(kind, n, 0, -1));
        }
        due(0, 4, "addCue(SWAP, n, 5, -1)", n -> 0, n -> new Clockmask().addCue(SWAP, n, 5, -1));
        due(1, 5, "addCue(SWAP, n, 0, -1)", n -> 0, n -> new Clockmask().addCue(SWAP, n, 0, -1));
        due(0, 4, "addCue(SWAP, 5, n, -1)", n -> 0, n -> new Clockmask().addCue(SWAP, 5, n, -1));
        due(1, 5, "addCue(SWAP, 0, n, -1)", n -> 0, n -> new Clockmask().addCue(SWAP, 0, n, -1));
        due(0, 5, "maskOf(n)", n -> 5 - n, n -> Scenes.full().maskOf(n));
        due(0, 5, "maskByCues(n)", n -> 5 - n, n -> Scenes.full().maskByCues(n));
        due(0, 5, "isOn(n)", n -> true, n -> Scenes.full().isOn(n));
        due(0, 5, "guess(0, n, 5 - n)", n -> true, n -> Scenes.full().guess(0, n, 5 - n));
        for (Clockmask x : newAndBusy()) {
            // The costumes 0 and 7 would fit the players -1 and 6, if there were these.
            none(x, 0, 5, "dress(n, 0)", n -> x.dress(n, 0));
            none(x, 0, 5, "dress(n, 7)", n -> x.dress(n, 7));
            none(x, 0, 5, "costumeOf(n)", x::costumeOf);
            for (int kind = ENTER; kind <= SWAP; kind++) {
                int k = kind;
                none(x, 0, 5, "addCue(" + k + ", n, 0, -1)", n -> x.addCue(k, n, 0, -1));
            }
            none(x, 0, 5, "addCue(SWAP, 0, n, -1)", n -> x.addCue(SWAP, 0, n, -1));
            none(x, 0, 5, "maskOf(n)", x::maskOf);
            none(x, 0, 5, "maskByCues(n)", x::maskByCues);
            none(x, 0, 5, "isOn(n)", x::isOn);
            none(x, 0, 5, "guess(0, n, 0)", n -> x.guess(0, n, 0));
        }
    }

    private static void masksAreZeroToFive() {
        CHECK.sentence("There are .. the masks 0 to 5");
        due(0, 5, "addCue(WEAR, 0, n, -1)", n -> 0, n -> new Clockmask().addCue(WEAR, 0, n, -1));
        due(0, 5, "wearerOf(n)", n -> 5 - n, n -> Scenes.full().wearerOf(n));
        CHECK.sentence("part: 0 to 5");
        due(0, 5, "guess(0, 5, n)", n -> n == 0, n -> Scenes.full().guess(0, 5, n));
        due(0, 5, "guess(0, 0, n)", n -> n == 5, n -> Scenes.full().guess(0, 0, n));
        for (Clockmask x : newAndBusy()) {
            none(x, 0, 5, "addCue(WEAR, 0, n, -1)", n -> x.addCue(WEAR, 0, n, -1));
            none(x, 0, 5, "wearerOf(n)", x::wearerOf);
            none(x, 0, 5, "guess(0, 0, n)", n -> x.guess(0, 0, n));
        }
    }

    private static void costumesAreZeroToSeven() {
        CHECK.sentence("There are .. the costumes 0 to 7");
        due(0, 2, "dress(0, n)", n -> -1, n -> new Clockmask().dress(0, n));
        due(5, 7, "dress(5, n)", n -> -1, n -> new Clockmask().dress(5, n));
        due(0, 7, "repair(n)", n -> 10, n -> new Clockmask().repair(n));
        due(0, 7, "wear(n)", n -> n == 2 ? 1 : 0, n -> onceWorn().wear(n));
        for (Clockmask x : newAndBusy()) {
            // By its size the costume -1 would fit nobody, and the costume 8 nobody, too.
            none(x, 0, 7, "dress(0, n)", n -> x.dress(0, n));
            none(x, 0, 7, "dress(5, n)", n -> x.dress(5, n));
            none(x, 0, 7, "repair(n)", x::repair);
            none(x, 0, 7, "wear(n)", x::wear);
        }
    }

    private static void guessersAreZeroToTwo() {
        CHECK.sentence("The public are the guessers 0 to 2");
        due(0, 2, "guess(n, 3, 2)", n -> true, n -> Scenes.full().guess(n, 3, 2));
        due(0, 2, "points(n)", n -> 0, n -> new Clockmask().points(n));
        for (Clockmask x : newAndBusy()) {
            none(x, 0, 2, "guess(n, 0, 0)", n -> x.guess(n, 0, 0));
            none(x, 0, 2, "points(n)", x::points);
        }
    }

    private static void cuesAreThoseOfThePlay() {
        CHECK.sentence("Cues of a play are numbered from 0, at most 24");
        for (int cues = 0; cues <= 24; cues++) {
            Clockmask x = Scenes.chain(cues);
            int last = cues - 1;
            due(0, last, "canCall(n) of " + cues, n -> n == 0, x::canCall);
            due(0, last, "stateOf(n) of " + cues, n -> Clockmask.WAITING, x::stateOf);
            noCue(x, last);
            due(0, last, "call(n) of " + cues, n -> n + 1, x::call);
            noCue(x, last);
            x.endPlay();
            noCue(x, -1);
            Clockmask y = Scenes.chain(cues);
            // From the last down to the first, so that none is missed with another.
            due(0, last, "miss(" + last + " - n) of " + cues, n -> 1, n -> y.miss(last - n));
            noCue(y, last);
        }
    }

    private static void noCue(Clockmask x, int last) {
        none(x, 0, last, "canCall(n)", x::canCall);
        none(x, 0, last, "call(n)", x::call);
        none(x, 0, last, "miss(n)", x::miss);
        none(x, 0, last, "stateOf(n)", x::stateOf);
    }

    private static void cuesToWaitForAreThoseOfThePlay() {
        CHECK.sentence("A cue waits for a cue with a lower number, or for none");
        for (int cues = 0; cues < 24; cues++) {
            int count = cues;
            // The first of those that are not is the number of the cue itself.
            due(-1, count - 1, "addCue(DOFF, 0, 0, n) after " + count, n -> count,
                n -> Scenes.chain(count).addCue(DOFF, 0, 0, n));
        }
        for (int cues = 0; cues <= 24; cues++) {
            Clockmask x = Scenes.chain(cues);
            none(x, -1, cues - 1, "addCue(DOFF, 0, 0, n)", n -> x.addCue(DOFF, 0, 0, n));
            none(x, -1, cues - 1, "addCue(WEAR, 0, 0, n)", n -> x.addCue(WEAR, 0, 0, n));
        }
        Clockmask y = Scenes.chain(24);
        y.run();
        y.endPlay();
        none(y, -1, -1, "addCue(ENTER, 0, 0, n) in the next play", n -> y.addCue(ENTER, 0, 0, n));
    }

    private static void kindsAreEnterToSwap() {
        CHECK.sentence("IllegalArgumentException if there is no such kind");
        due(0, 4, "addCue(n, 0, 1, -1)", n -> 0, n -> new Clockmask().addCue(n, 0, 1, -1));
        for (Clockmask x : newAndBusy()) {
            for (int kind : outside(0, 4)) {
                CHECK.refused(x, "addCue of kind " + kind, ARGUMENT, () -> x.addCue(kind, 0, 1, -1));
            }
        }
    }

    private static void otherMayBeAnythingWhereItDoesNotMatter() {
        CHECK.sentence("other: the mask m for WEAR, the player b for SWAP; it does not matter for other kinds");
        for (int kind : new int[] {ENTER, EXIT, DOFF}) {
            for (int other : new int[] {-2, -1, 0, 3, 5, 6, 24, Integer.MIN_VALUE, Integer.MAX_VALUE}) {
                Clockmask x = new Clockmask();
                x.dress(3, 3);
                Scenes.called(x, WEAR, 3, 5);
                String call = "addCue(" + kind + ", 3, " + other + ", -1)";
                CHECK.due(call, x.addCue(kind, 3, other, -1), 1);
                CHECK.due("canCall after " + call, x.canCall(1), kind != EXIT);
                CHECK.due("run() after " + call, x.run(), kind == EXIT ? 0 : 1);
                CHECK.due("isOn after " + call, x.isOn(3), kind == ENTER);
                CHECK.due("maskOf after " + call, x.maskOf(3), kind == DOFF ? -1 : 5);
                CHECK.due("maskByCues after " + call, x.maskByCues(3), kind == DOFF ? -1 : 5);
            }
        }
    }

    private static void numbersThatWouldWrapAreNone() {
        CHECK.sentence("IndexOutOfBoundsException is thrown if there is no such player");
        Clockmask x = Scenes.full();
        // Guesser and player that would meet the place of others in one row.
        CHECK.refused(x, "guess(0, 6, 5)", NO_SUCH, () -> x.guess(0, 6, 5));
        CHECK.refused(x, "guess(-1, 6, 5)", NO_SUCH, () -> x.guess(-1, 6, 5));
        CHECK.refused(x, "guess(3, -6, 5)", NO_SUCH, () -> x.guess(3, -6, 5));
        CHECK.refused(x, "guess(1, -1, 5)", NO_SUCH, () -> x.guess(1, -1, 5));
        // Sizes whose difference would wrap round.
        CHECK.refused(x, "dress(MAX, MIN)", NO_SUCH, () -> x.dress(Integer.MAX_VALUE, Integer.MIN_VALUE));
        CHECK.refused(x, "dress(MIN, MAX)", NO_SUCH, () -> x.dress(Integer.MIN_VALUE, Integer.MAX_VALUE));
        CHECK.refused(x, "dress(5, MIN)", NO_SUCH, () -> x.dress(5, Integer.MIN_VALUE));
        // Numbers that would be in the row if only their last bits were looked at.
        for (int far : new int[] {256, 65536, 1 << 24, 1 << 30, -256, -65536}) {
            CHECK.refused(x, "stateOf(" + far + ")", NO_SUCH, () -> x.stateOf(far));
            CHECK.refused(x, "wear(" + far + ")", NO_SUCH, () -> x.wear(far));
            CHECK.refused(x, "points(" + far + ")", NO_SUCH, () -> x.points(far));
        }
    }

    /** Asks for each number from first to last; of a range without numbers it asks nothing. */
    private static void due(int first, int last, String call, Asked want, Asked got) {
        for (int number = first; number <= last; number++) {
            int n = number;
            CHECK.due(call + " with n = " + n, Check.outcome(() -> got.answer(n)), String.valueOf(want.answer(n)));
        }
    }

    private static void none(Clockmask x, int first, int last, String call, Asked asked) {
        for (int number : outside(first, last)) {
            CHECK.refused(x, call + " with n = " + number, NO_SUCH, () -> asked.answer(number));
        }
    }

    private static int[] outside(int first, int last) {
        return new int[] {first - 1, first - 2, last + 1, last + 2, Integer.MIN_VALUE, Integer.MAX_VALUE};
    }

    private static Clockmask[] newAndBusy() {
        return new Clockmask[] {new Clockmask(), Scenes.full()};
    }

    private static Clockmask onceWorn() {
        Clockmask x = new Clockmask();
        Scenes.wearOut(x, 1, 2, 1);
        return x;
    }
}
