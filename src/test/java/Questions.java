import java.util.NoSuchElementException;

/** All that a stack answers about its state, but for the reason, the input and what was saved. */
final class Questions {
    private Questions() {
    }

    static String answers(CueStack stack) {
        StringBuilder text = new StringBuilder();
        askAccounts(stack, text);
        askChannels(stack, text);
        int cues = stack.account(0);
        for (int index = 0; index < cues; index++) {
            askCue(stack, stack.cueAt(index), text);
        }
        int instructions = stack.account(1);
        for (int index = 0; index < instructions; index++) {
            text.append("\ninstruction");
            for (int what = 0; what <= 3; what++) {
                text.append(' ').append(stack.instruction(index, what));
            }
        }
        try {
            text.append(stack.cueAt(cues)).append(stack.instruction(instructions, 0));
        } catch (NoSuchElementException expected) {
            text.append("\nend");
        }
        return text.toString();
    }

    private static void askAccounts(CueStack stack, StringBuilder text) {
        text.append("accounts");
        for (int account = 0; account <= 10; account++) {
            text.append(' ').append(stack.account(account));
        }
        text.append("\nmean ").append(stack.meanLevel()).append("\nplaying");
        for (int what = 0; what <= 4; what++) {
            text.append(' ').append(stack.playing(what));
        }
    }

    private static void askChannels(CueStack stack, StringBuilder text) {
        text.append("\nchannels");
        for (int channel = 0; channel < 12; channel++) {
            text.append(' ').append(stack.now(channel)).append(':').append(stack.target(channel));
        }
    }

    private static void askCue(CueStack stack, int cue, StringBuilder text) {
        text.append("\ncue ").append(cue);
        for (int what = 0; what <= 6; what++) {
            text.append(' ').append(stack.cue(cue, what));
        }
        text.append(" sum ").append(stack.sum(cue)).append(" chain ").append(stack.chain(cue));
        for (int part = 0; part < 4; part++) {
            text.append(' ').append(stack.part(cue, part, true));
            text.append('+').append(stack.part(cue, part, false));
        }
        for (int channel = 0; channel < 12; channel++) {
            text.append(' ').append(stack.level(cue, channel));
            text.append('=').append(stack.levelAgain(cue, channel));
            text.append('<').append(stack.source(cue, channel));
        }
        for (int index = 0; index < stack.account(0); index++) {
            text.append(" apart ").append(stack.apart(cue, stack.cueAt(index)));
        }
    }
}
