/** All that can be asked of a theatre without changing it, as one text. */
final class View {
    private View() {
    }

    static String of(Clockmask theatre) {
        StringBuilder text = new StringBuilder();
        for (int player = 0; player < 6; player++) {
            text.append("player ").append(player)
                .append(": costume ").append(theatre.costumeOf(player))
                .append(", mask ").append(theatre.maskOf(player))
                .append(", by cues ").append(theatre.maskByCues(player))
                .append(", on ").append(theatre.isOn(player)).append("; ");
        }
        for (int costume = 0; costume < 8; costume++) {
            text.append("wear ").append(theatre.wear(costume)).append("; ");
        }
        for (int mask = 0; mask < 6; mask++) {
            text.append("wearer ").append(theatre.wearerOf(mask)).append("; ");
        }
        for (int cue = 0; cue < theatre.cues(); cue++) {
            text.append("cue ").append(theatre.stateOf(cue))
                .append(' ').append(theatre.canCall(cue)).append("; ");
        }
        for (int guesser = 0; guesser < 3; guesser++) {
            text.append("points ").append(theatre.points(guesser)).append("; ");
        }
        return text.append("purse ").append(theatre.purse())
            .append(", plays ").append(theatre.plays()).toString();
    }
}
