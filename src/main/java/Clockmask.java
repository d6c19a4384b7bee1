import java.util.Arrays;

/** A mask theatre: players, masks, costumes, cues, guessers and a purse, play after play. */
public final class Clockmask {
    public static final int NONE = -1;
    public static final int ENTER = 0, EXIT = 1, WEAR = 2, DOFF = 3, SWAP = 4;
    public static final int WAITING = 0, CALLED = 1, MISSED = 2;

    private static final int PLAYERS = 6;
    private static final int MASKS = 6;
    private static final int COSTUMES = 8;
    private static final int GUESSERS = 3;
    private static final int MOST_CUES = 24;
    private static final int TORN = 3;
    private static final int FIRST_PURSE = 10;
    private static final int RIGHT_GUESS = 3;
    private static final int WRONG_GUESS = -1;

    private final int[] costumeOfPlayer = new int[PLAYERS];
    private final int[] maskOfPlayer = new int[PLAYERS];
    private final boolean[] onStage = new boolean[PLAYERS];
    private final int[] wearOfCostume = new int[COSTUMES];

    // addCue looks at every number that matters before it stores it here, so these
    // rows hold only numbers of players, masks and cues that there are; but cueWaits
    // may hold NONE, and cueOther anything where the kind is neither WEAR nor SWAP.
    private final int[] cueKind = new int[MOST_CUES];
    private final int[] cuePlayer = new int[MOST_CUES];
    private final int[] cueOther = new int[MOST_CUES];
    private final int[] cueWaits = new int[MOST_CUES];
    private final int[] cueState = new int[MOST_CUES];
    private final int[] calledCues = new int[MOST_CUES];
    private int cueCount;
    private int calledCount;

    private final int[] pointsOfGuesser = new int[GUESSERS];
    private final boolean[] guessed = new boolean[GUESSERS * PLAYERS];
    private int purse = FIRST_PURSE;
    private int endedPlays;

    // Kept here so that maskByCues makes no new row at each call.
    private final int[] replayedMasks = new int[PLAYERS];

    public Clockmask() {
        Arrays.fill(costumeOfPlayer, NONE);
        Arrays.fill(maskOfPlayer, NONE);
    }

    // ---- costumes

    public int dress(int player, int costume)
            throws IndexOutOfBoundsException, IllegalArgumentException, IllegalStateException {
        requirePlayer(player);
        requireCostume(costume);
        if (!fits(costume, player)) {
            throw new IllegalArgumentException("the costume does not fit");
        }
        if (onStage[player]) {
            throw new IllegalStateException("the player is on stage");
        }
        int dressed = playerIn(costume);
        if (dressed != NONE && dressed != player) {
            throw new IllegalStateException("the costume is on another player");
        }
        if (wearOfCostume[costume] >= TORN) {
            throw new IllegalStateException("the costume is torn");
        }
        int before = costumeOfPlayer[player];
        costumeOfPlayer[player] = costume;
        return before;
    }

    public int repair(int costume) throws IndexOutOfBoundsException, IllegalStateException {
        requireCostume(costume);
        if (playerIn(costume) != NONE) {
            throw new IllegalStateException("some player has the costume on");
        }
        if (purse < wearOfCostume[costume]) {
            throw new IllegalStateException("the purse has less than the repair costs");
        }
        purse -= wearOfCostume[costume];
        wearOfCostume[costume] = 0;
        return purse;
    }

    public int costumeOf(int player) throws IndexOutOfBoundsException {
        requirePlayer(player);
        return costumeOfPlayer[player];
    }

    public int wear(int costume) throws IndexOutOfBoundsException {
        requireCostume(costume);
        return wearOfCostume[costume];
    }

    public int purse() {
        return purse;
    }

    // ---- cues

    public int addCue(int kind, int player, int other, int waits)
            throws IllegalArgumentException, IndexOutOfBoundsException, IllegalStateException {
        if (kind < ENTER || kind > SWAP) {
            throw new IllegalArgumentException("no such kind of cue");
        }
        requirePlayer(player);
        requireOther(kind, other);
        if (waits != NONE) {
            requireCue(waits);
        }
        if (cueCount >= MOST_CUES) {
            throw new IllegalStateException("the play has no room for another cue");
        }
        if (kind == SWAP && player == other) {
            throw new IllegalStateException("a player cannot swap with itself");
        }
        if (waits != NONE && cueState[waits] == MISSED) {
            throw new IllegalStateException("the cue for which to wait was missed");
        }
        int cue = cueCount;
        cueKind[cue] = kind;
        cuePlayer[cue] = player;
        cueOther[cue] = other;
        cueWaits[cue] = waits;
        cueState[cue] = WAITING;
        cueCount++;
        return cue;
    }

    public boolean canCall(int cue) throws IndexOutOfBoundsException {
        requireCue(cue);
        return isCallable(cue);
    }

    public int call(int cue) throws IndexOutOfBoundsException, IllegalStateException {
        requireCue(cue);
        if (!isCallable(cue)) {
            throw new IllegalStateException("the cue cannot be called");
        }
        carryOut(cue);
        return calledCount;
    }

    public int run() {
        int before = calledCount;
        int next = firstCallable();
        for (int round = 0; round < MOST_CUES && next != NONE; round++) {
            carryOut(next);
            next = firstCallable();
        }
        return calledCount - before;
    }

    public int miss(int cue) throws IndexOutOfBoundsException, IllegalStateException {
        requireCue(cue);
        if (cueState[cue] != WAITING) {
            throw new IllegalStateException("the cue is not waiting");
        }
        cueState[cue] = MISSED;
        int missed = 1;
        // A cue waits for a lower one alone, so one pass upwards meets the whole chain.
        for (int later = cue + 1; later < cueCount; later++) {
            if (cueState[later] == WAITING && waitsForMissed(later)) {
                cueState[later] = MISSED;
                missed++;
            }
        }
        return missed;
    }

    public int stateOf(int cue) throws IndexOutOfBoundsException {
        requireCue(cue);
        return cueState[cue];
    }

    public int cues() {
        return cueCount;
    }

    // ---- players and masks

    public int maskOf(int player) throws IndexOutOfBoundsException {
        requirePlayer(player);
        return maskOfPlayer[player];
    }

    public int maskByCues(int player) throws IndexOutOfBoundsException {
        requirePlayer(player);
        Arrays.fill(replayedMasks, NONE);
        for (int turn = 0; turn < calledCount; turn++) {
            moveMasks(calledCues[turn], replayedMasks);
        }
        return replayedMasks[player];
    }

    public int wearerOf(int mask) throws IndexOutOfBoundsException {
        requireMask(mask);
        return playerBehind(mask);
    }

    public boolean isOn(int player) throws IndexOutOfBoundsException {
        requirePlayer(player);
        return onStage[player];
    }

    // ---- guesses and plays

    public boolean guess(int guesser, int player, int part)
            throws IndexOutOfBoundsException, IllegalStateException {
        requireGuesser(guesser);
        requirePlayer(player);
        requireMask(part);
        if (!onStage[player] || maskOfPlayer[player] == NONE) {
            throw new IllegalStateException("the player is not on stage with a mask");
        }
        int guess = guesser * PLAYERS + player;
        if (guessed[guess]) {
            throw new IllegalStateException("the guesser has guessed this part in this play");
        }
        guessed[guess] = true;
        boolean right = maskOfPlayer[player] == part;
        pointsOfGuesser[guesser] += right ? RIGHT_GUESS : WRONG_GUESS;
        return right;
    }

    public int points(int guesser) throws IndexOutOfBoundsException {
        requireGuesser(guesser);
        return pointsOfGuesser[guesser];
    }

    public int endPlay() throws IllegalStateException {
        if (countCues(WAITING) > 0) {
            throw new IllegalStateException("some cue is waiting");
        }
        purse = Math.max(0, purse + countCues(CALLED) - countCues(MISSED));
        endedPlays++;
        clearStage();
        clearGuesses();
        cueCount = 0;
        calledCount = 0;
        return purse;
    }

    public int plays() {
        return endedPlays;
    }

    // ---- what there is

    private static boolean isWithin(int number, int count) {
        return number >= 0 && number < count;
    }

    private static void requirePlayer(int player) {
        if (!isWithin(player, PLAYERS)) {
            throw new IndexOutOfBoundsException("no such player");
        }
    }

    private static void requireMask(int mask) {
        if (!isWithin(mask, MASKS)) {
            throw new IndexOutOfBoundsException("no such mask");
        }
    }

    private static void requireCostume(int costume) {
        if (!isWithin(costume, COSTUMES)) {
            throw new IndexOutOfBoundsException("no such costume");
        }
    }

    private static void requireGuesser(int guesser) {
        if (!isWithin(guesser, GUESSERS)) {
            throw new IndexOutOfBoundsException("no such guesser");
        }
    }

    private void requireCue(int cue) {
        if (!isWithin(cue, cueCount)) {
            throw new IndexOutOfBoundsException("no such cue");
        }
    }

    private static void requireOther(int kind, int other) {
        if (kind == WEAR) {
            requireMask(other);
        } else if (kind == SWAP) {
            requirePlayer(other);
        }
    }

    // ---- costumes and masks on players

    private static boolean fits(int costume, int player) {
        int costumeSize = costume - 1;
        return Math.abs(costumeSize - player) <= 1;
    }

    private int playerIn(int costume) {
        return indexOf(costume, costumeOfPlayer);
    }

    private int playerBehind(int mask) {
        return indexOf(mask, maskOfPlayer);
    }

    private static int indexOf(int number, int[] row) {
        for (int i = 0; i < row.length; i++) {
            if (row[i] == number) {
                return i;
            }
        }
        return NONE;
    }

    // ---- calling cues

    private int firstCallable() {
        for (int cue = 0; cue < cueCount; cue++) {
            if (isCallable(cue)) {
                return cue;
            }
        }
        return NONE;
    }

    private boolean isCallable(int cue) {
        return cueState[cue] == WAITING && isReleased(cue) && canBeDone(cue);
    }

    private boolean isReleased(int cue) {
        int awaited = cueWaits[cue];
        return awaited == NONE || cueState[awaited] == CALLED;
    }

    private boolean waitsForMissed(int cue) {
        int awaited = cueWaits[cue];
        return awaited != NONE && cueState[awaited] == MISSED;
    }

    private boolean canBeDone(int cue) {
        int player = cuePlayer[cue];
        int other = cueOther[cue];
        switch (cueKind[cue]) {
            case ENTER:
                return !onStage[player] && costumeOfPlayer[player] != NONE;
            case EXIT:
                return onStage[player];
            case WEAR:
                return maskOfPlayer[player] == NONE && playerBehind(other) == NONE;
            case DOFF:
                return maskOfPlayer[player] != NONE;
            default:
                return canSwap(player, other);
        }
    }

    private boolean canSwap(int player, int other) {
        boolean bothOn = onStage[player] && onStage[other];
        return bothOn && (maskOfPlayer[player] != NONE || maskOfPlayer[other] != NONE);
    }

    private void carryOut(int cue) {
        int player = cuePlayer[cue];
        if (cueKind[cue] == ENTER) {
            onStage[player] = true;
        } else if (cueKind[cue] == EXIT) {
            leaveStage(player);
        } else {
            moveMasks(cue, maskOfPlayer);
        }
        cueState[cue] = CALLED;
        noteCalled(cue);
    }

    private void noteCalled(int cue) {
        if (calledCount < calledCues.length) {
            calledCues[calledCount] = cue;
            calledCount++;
        }
    }

    private void leaveStage(int player) {
        onStage[player] = false;
        int costume = costumeOfPlayer[player];
        if (costume == NONE) {
            return;
        }
        wearOfCostume[costume]++;
        if (wearOfCostume[costume] >= TORN) {
            costumeOfPlayer[player] = NONE;
        }
    }

    // The row is told, so that maskByCues can do cues once more beside the play.
    private void moveMasks(int cue, int[] masks) {
        int player = cuePlayer[cue];
        int other = cueOther[cue];
        if (cueKind[cue] == WEAR) {
            masks[player] = other;
        } else if (cueKind[cue] == DOFF) {
            masks[player] = NONE;
        } else if (cueKind[cue] == SWAP) {
            int mask = masks[player];
            masks[player] = masks[other];
            masks[other] = mask;
        }
    }

    // ---- ending a play

    private int countCues(int state) {
        int count = 0;
        for (int cue = 0; cue < cueCount; cue++) {
            if (cueState[cue] == state) {
                count++;
            }
        }
        return count;
    }

    private void clearStage() {
        for (int player = 0; player < PLAYERS; player++) {
            maskOfPlayer[player] = NONE;
            onStage[player] = false;
        }
    }

    private void clearGuesses() {
        for (int guess = 0; guess < guessed.length; guess++) {
            guessed[guess] = false;
        }
    }
}
