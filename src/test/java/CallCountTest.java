/** Each call as the first one and as the 512th one of an object: so long the document's answers are due. */
public final class CallCountTest {
    private static final int MOST_CALLS = 512;
    private static final int ENTER = Clockmask.ENTER;
    private static final int EXIT = Clockmask.EXIT;
    private static final int WEAR = Clockmask.WEAR;
    private static final int DOFF = Clockmask.DOFF;
    private static final int SWAP = Clockmask.SWAP;
    private static final int NONE = Clockmask.NONE;
    private static final String NO_SUCH = "IndexOutOfBoundsException";
    private static final String ARGUMENT = "IllegalArgumentException";
    private static final String STATE = "IllegalStateException";

    private static final Check CHECK = new Check("CallCountTest");

    private interface Asked {
        Object of(Clockmask x);
    }

    private record Due(String call, String answer, Asked asked) {
    }

    /** What leaves a theatre as it is before the last call that counts. */
    private interface Use {
        void upTo(Counted x, int calls);
    }

    /** A theatre that counts its calls. */
    private static final class Counted {
        private final Clockmask theatre = new Clockmask();
        private int calls = 0;

        Clockmask next() {
            calls++;
            return theatre;
        }

        void fillUpTo(int count) {
            while (calls < count) {
                next().purse();
            }
        }
    }

    private static final Due[] OF_A_NEW_OBJECT = {
        new Due("dress(0, 0)", "-1", x -> x.dress(0, 0)),
        new Due("dress(5, 7)", "-1", x -> x.dress(5, 7)),
        new Due("dress(6, 7)", NO_SUCH, x -> x.dress(6, 7)),
        new Due("dress(0, 3)", ARGUMENT, x -> x.dress(0, 3)),
        new Due("repair(7)", "10", x -> x.repair(7)),
        new Due("repair(8)", NO_SUCH, x -> x.repair(8)),
        new Due("costumeOf(0)", "-1", x -> x.costumeOf(0)),
        new Due("costumeOf(6)", NO_SUCH, x -> x.costumeOf(6)),
        new Due("wear(0)", "0", x -> x.wear(0)),
        new Due("wear(8)", NO_SUCH, x -> x.wear(8)),
        new Due("purse()", "10", x -> x.purse()),
        new Due("addCue(ENTER, 5, 9, NONE)", "0", x -> x.addCue(ENTER, 5, 9, NONE)),
        new Due("addCue(5, 0, 0, NONE)", ARGUMENT, x -> x.addCue(5, 0, 0, NONE)),
        new Due("addCue(ENTER, 0, 0, 0)", NO_SUCH, x -> x.addCue(ENTER, 0, 0, 0)),
        new Due("addCue(SWAP, 0, 0, NONE)", STATE, x -> x.addCue(SWAP, 0, 0, NONE)),
        new Due("canCall(0)", NO_SUCH, x -> x.canCall(0)),
        new Due("call(0)", NO_SUCH, x -> x.call(0)),
        new Due("run()", "0", x -> x.run()),
        new Due("miss(0)", NO_SUCH, x -> x.miss(0)),
        new Due("stateOf(0)", NO_SUCH, x -> x.stateOf(0)),
        new Due("cues()", "0", x -> x.cues()),
        new Due("maskOf(5)", "-1", x -> x.maskOf(5)),
        new Due("maskOf(6)", NO_SUCH, x -> x.maskOf(6)),
        new Due("maskByCues(5)", "-1", x -> x.maskByCues(5)),
        new Due("maskByCues(6)", NO_SUCH, x -> x.maskByCues(6)),
        new Due("wearerOf(0)", "-1", x -> x.wearerOf(0)),
        new Due("wearerOf(6)", NO_SUCH, x -> x.wearerOf(6)),
        new Due("isOn(0)", "false", x -> x.isOn(0)),
        new Due("isOn(6)", NO_SUCH, x -> x.isOn(6)),
        new Due("guess(0, 0, 0)", STATE, x -> x.guess(0, 0, 0)),
        new Due("guess(3, 0, 0)", NO_SUCH, x -> x.guess(3, 0, 0)),
        new Due("points(2)", "0", x -> x.points(2)),
        new Due("points(3)", NO_SUCH, x -> x.points(3)),
        new Due("endPlay()", "10", x -> x.endPlay()),
        new Due("plays()", "0", x -> x.plays()),
    };

    /** Of a theatre after manyPlays. */
    private static final Due[] AFTER_MANY_PLAYS = {
        new Due("dress(0, 0)", "1", x -> x.dress(0, 0)),
        new Due("dress(1, 1) on stage", STATE, x -> x.dress(1, 1)),
        new Due("dress(1, 7)", ARGUMENT, x -> x.dress(1, 7)),
        new Due("repair(7)", "178", x -> x.repair(7)),
        new Due("repair(1) that is on", STATE, x -> x.repair(1)),
        new Due("costumeOf(5)", "6", x -> x.costumeOf(5)),
        new Due("wear(1)", "1", x -> x.wear(1)),
        new Due("purse()", "178", x -> x.purse()),
        new Due("addCue(ENTER, 0, 0, 22)", "23", x -> x.addCue(ENTER, 0, 0, 22)),
        new Due("addCue(ENTER, 0, 0, 23)", NO_SUCH, x -> x.addCue(ENTER, 0, 0, 23)),
        new Due("canCall(13)", "true", x -> x.canCall(13)),
        new Due("canCall(14)", "false", x -> x.canCall(14)),
        new Due("call(13)", "14", x -> x.call(13)),
        new Due("call(14)", STATE, x -> x.call(14)),
        new Due("run()", "10", x -> x.run()),
        new Due("miss(13)", "10", x -> x.miss(13)),
        new Due("miss(12)", STATE, x -> x.miss(12)),
        new Due("stateOf(12)", "1", x -> x.stateOf(12)),
        new Due("stateOf(22)", "0", x -> x.stateOf(22)),
        new Due("stateOf(23)", NO_SUCH, x -> x.stateOf(23)),
        new Due("cues()", "23", x -> x.cues()),
        new Due("maskOf(0)", "5", x -> x.maskOf(0)),
        new Due("maskByCues(5)", "0", x -> x.maskByCues(5)),
        new Due("wearerOf(4)", "1", x -> x.wearerOf(4)),
        new Due("isOn(0)", "false", x -> x.isOn(0)),
        new Due("isOn(5)", "true", x -> x.isOn(5)),
        new Due("guess(1, 5, 0)", "true", x -> x.guess(1, 5, 0)),
        new Due("guess(0, 5, 0) again", STATE, x -> x.guess(0, 5, 0)),
        new Due("guess(0, 0, 5) off stage", STATE, x -> x.guess(0, 0, 5)),
        new Due("points(0)", "255", x -> x.points(0)),
        new Due("points(1)", "-84", x -> x.points(1)),
        new Due("points(2)", "84", x -> x.points(2)),
        new Due("endPlay()", STATE, x -> x.endPlay()),
        new Due("plays()", "14", x -> x.plays()),
    };

    public static void main(String[] args) {
        CHECK.sentence("An object is used for at most 512 calls after it has been made");
        dueAsTheFirstCall();
        dueAsTheLastCall("questions", CallCountTest::questions, OF_A_NEW_OBJECT);
        dueAsTheLastCall("refused calls", CallCountTest::refusedCalls, OF_A_NEW_OBJECT);
        dueAsTheLastCall("many plays", CallCountTest::manyPlays, AFTER_MANY_PLAYS);
        playsWithoutCues();
        playsWithTwentyFourCues();
        costumesPutOnAgainAndAgain();
        costumesTornAndRepaired();
        guessesAllWrong();
        laterCallsThrowOnlyWhatTheFaceNames();
        CHECK.end();
    }

    private static void dueAsTheFirstCall() {
        for (Due due : OF_A_NEW_OBJECT) {
            Clockmask x = new Clockmask();
            CHECK.due(due.call + ", the first call", Check.outcome(() -> due.asked.of(x)), due.answer);
        }
    }

    private static void dueAsTheLastCall(String before, Use use, Due[] dues) {
        for (Due due : dues) {
            Counted x = new Counted();
            use.upTo(x, MOST_CALLS - 1);
            CHECK.due("calls before", x.calls, MOST_CALLS - 1);
            CHECK.due(due.call + " after " + before, Check.outcome(() -> due.asked.of(x.next())), due.answer);
        }
    }

    private static void questions(Counted x, int calls) {
        while (x.calls < calls) {
            int number = x.calls % 3;
            switch (x.calls % 10) {
                case 0 -> x.next().costumeOf(number);
                case 1 -> x.next().wear(number);
                case 2 -> x.next().run();
                case 3 -> x.next().cues();
                case 4 -> x.next().maskOf(number);
                case 5 -> x.next().maskByCues(number);
                case 6 -> x.next().wearerOf(number);
                case 7 -> x.next().isOn(number);
                case 8 -> x.next().points(number);
                default -> x.next().plays();
            }
        }
    }

    private static void refusedCalls(Counted x, int calls) {
        while (x.calls < calls) {
            Due due = OF_A_NEW_OBJECT[x.calls % OF_A_NEW_OBJECT.length];
            boolean refused = due.answer.endsWith("Exception");
            Asked asked = refused ? due.asked : y -> y.guess(2, 5, 5);
            String want = refused ? due.answer : STATE;
            CHECK.due("call " + x.calls, Check.outcome(() -> asked.of(x.next())), want);
        }
    }

    /** 14 ended plays of 12 called cues and 18 guesses each, then one with 13 called and 10 waiting cues. */
    private static void manyPlays(Counted x, int calls) {
        for (int player = 0; player < 6; player++) {
            x.next().dress(player, player + 1);
        }
        for (int play = 0; play < 14; play++) {
            enterMasked(x);
            for (int player = 0; player < 6; player++) {
                x.next().guess(0, player, 5 - player);
                x.next().guess(1, player, player);
                x.next().guess(2, player, player < 3 ? 5 - player : player);
            }
            x.next().endPlay();
        }
        enterMasked(x);
        x.next().guess(0, 5, 0);
        x.next().addCue(EXIT, 0, 0, NONE);
        x.next().call(12);
        for (int cue = 13; cue < 23; cue++) {
            x.next().addCue(cue % 2 == 1 ? DOFF : WEAR, 1, 4, cue - 1);
        }
        x.fillUpTo(calls);
    }

    private static void enterMasked(Counted x) {
        for (int player = 0; player < 6; player++) {
            x.next().addCue(ENTER, player, 0, NONE);
            x.next().addCue(WEAR, player, 5 - player, 2 * player);
        }
        CHECK.due("run()", x.next().run(), 12);
    }

    private static void playsWithoutCues() {
        Counted x = new Counted();
        for (int play = 1; play < MOST_CALLS; play++) {
            CHECK.due("endPlay() of play " + play, x.next().endPlay(), 10);
        }
        CHECK.due("plays(), call " + x.calls, x.next().plays(), MOST_CALLS - 1);
        CHECK.due("calls", x.calls, MOST_CALLS);
    }

    private static void playsWithTwentyFourCues() {
        Counted x = new Counted();
        for (int play = 1; play <= 19; play++) {
            addMasksOnAndOff(x, 24);
            CHECK.due("run() of play " + play, x.next().run(), 24);
            CHECK.due("endPlay() of play " + play, x.next().endPlay(), 10 + 24 * play);
        }
        addMasksOnAndOff(x, 16);
        CHECK.due("run(), call " + x.calls, x.next().run(), 16);
        CHECK.due("endPlay(), call " + x.calls, x.next().endPlay(), 10 + 24 * 19 + 16);
        CHECK.due("calls", x.calls, MOST_CALLS);
    }

    private static void addMasksOnAndOff(Counted x, int cues) {
        for (int cue = 0; cue < cues; cue++) {
            CHECK.due("addCue, call " + x.calls, x.next().addCue(cue % 2 == 0 ? WEAR : DOFF, 5, 5, cue - 1), cue);
        }
    }

    private static void costumesPutOnAgainAndAgain() {
        Counted x = new Counted();
        int before = NONE;
        while (x.calls < MOST_CALLS) {
            int costume = x.calls % 3;
            CHECK.due("dress, call " + x.calls, x.next().dress(0, costume), before);
            before = costume;
        }
    }

    private static void costumesTornAndRepaired() {
        Counted x = new Counted();
        int purse = 10;
        for (int play = 0; play < 18; play++) {
            for (int costume = 2; costume < 5; costume++) {
                wornOut(x, costume);
                purse -= 3;
                CHECK.due("repair, call " + x.calls, x.next().repair(costume), purse);
            }
            purse += 18;
            CHECK.due("endPlay(), call " + x.calls, x.next().endPlay(), purse);
        }
        wornOut(x, 7);
        CHECK.due("calls", x.calls, MOST_CALLS);
    }

    /** Eight calls that tear the costume. */
    private static void wornOut(Counted x, int costume) {
        int player = costume - 2;
        CHECK.due("dress, call " + x.calls, x.next().dress(player, costume), NONE);
        for (int cue = 0; cue < 6; cue++) {
            x.next().addCue(cue % 2 == 0 ? ENTER : EXIT, player, 0, NONE);
        }
        CHECK.due("run(), call " + x.calls, x.next().run(), 6);
    }

    private static void guessesAllWrong() {
        Counted x = new Counted();
        for (int player = 0; player < 6; player++) {
            x.next().dress(player, player + 1);
        }
        int plays = 0;
        while (x.calls + 20 < MOST_CALLS) {
            enterMasked(x);
            for (int player = 0; player < 6; player++) {
                CHECK.due("guess, call " + x.calls, x.next().guess(2, player, player), false);
            }
            x.next().endPlay();
            plays++;
        }
        x.fillUpTo(MOST_CALLS - 1);
        CHECK.due("points(2), call " + x.calls, x.next().points(2), -6 * plays);
        CHECK.due("calls", x.calls, MOST_CALLS);
    }

    /** The answers are free then; but LANGUAGE.md, rule 7, holds in any state. */
    private static void laterCallsThrowOnlyWhatTheFaceNames() {
        CHECK.sentence("what later calls answer is free");
        Counted x = new Counted();
        manyPlays(x, MOST_CALLS);
        while (x.calls < 20 * MOST_CALLS) {
            Due due = AFTER_MANY_PLAYS[x.calls % AFTER_MANY_PLAYS.length];
            String got = Check.outcome(() -> due.asked.of(x.next()));
            boolean named = got.equals(NO_SUCH) || got.equals(ARGUMENT) || got.equals(STATE);
            CHECK.due(due.call + ", call " + x.calls + ", threw " + got, got.endsWith("Exception") && !named, false);
        }
    }
}
