import java.util.NoSuchElementException;
import java.util.TreeSet;

/** What the tests of boundaries share: numbers out of range, and calls that must change nothing. */
final class Bounds {
    static final Class<IndexOutOfBoundsException> NO_INDEX = IndexOutOfBoundsException.class;
    static final Class<IllegalArgumentException> BAD = IllegalArgumentException.class;
    static final Class<IllegalStateException> STATE = IllegalStateException.class;
    static final Class<NoSuchElementException> NONE = NoSuchElementException.class;
    static final Class<UnsupportedOperationException> REFUSED =
        UnsupportedOperationException.class;

    private Bounds() {
    }

    /** A call that is given one number. */
    interface OfNumber {
        long answer(CueStack stack, int number);
    }

    /**
     * Numbers that are too small or too large: the nearest ones, the farthest ones, and those that
     * would be in range if they were wrapped around to fewer bits.
     */
    static int[] outside(int least, int most) {
        TreeSet<Integer> found = new TreeSet<>();
        for (int bits : new int[] {4, 5, 6, 7, 8, 16, 24, 31}) {
            found.add(least + (1 << bits));
            found.add(most + (1 << bits));
            found.add(least - (1 << bits));
            found.add(most - (1 << bits));
        }
        for (int near = 1; near <= 3; near++) {
            found.add(least - near);
            found.add(most + near);
            found.add(Integer.MIN_VALUE + near - 1);
            found.add(Integer.MAX_VALUE - near + 1);
        }
        found.removeIf(number -> number >= least && number <= most);
        int[] numbers = new int[found.size()];
        int place = 0;
        for (int number : found) {
            numbers[place++] = number;
        }
        return numbers;
    }

    /** All that can be asked: the state, the reason and the error position. */
    static String allOf(CueStack stack) {
        return Questions.answers(stack) + "\nreason " + kept(stack::reason) + "\nposition "
            + kept(stack::errorPosition);
    }

    private static String kept(Checks.Call call) {
        try {
            return Long.toString(call.answer());
        } catch (NoSuchElementException none) {
            return "none";
        }
    }

    static void dueSame(String call, CueStack stack, String before) {
        String after = allOf(stack);
        Checks.due(call + " changes nothing: " + (after.equals(before) ? "" : before + "\nto\n"
            + after), after.equals(before), true);
    }

    /** The call throws, and nothing is different then. */
    static void dueThrow(CueStack stack, String call, Class<? extends RuntimeException> want,
            Checks.Call called) {
        String before = allOf(stack);
        Checks.dueThrow(call, want, called);
        dueSame(call, stack, before);
    }

    /** The call is refused, and nothing is different then but the reason. */
    static void dueRefused(CueStack stack, String call, int reason, Checks.Call called) {
        String before = Questions.answers(stack);
        Checks.dueThrow(call, REFUSED, called);
        Checks.due("reason of " + call, stack.reason(), reason);
        Checks.due(call + " changes nothing", Questions.answers(stack).equals(before), true);
    }

    /** A text that is right and cannot be done: nothing is different then. */
    static void dueNotDone(CueStack stack, String text) {
        Stacks.type(stack, text);
        dueThrow(stack, "read of " + text, STATE, stack::read);
    }

    /** A text whose entry is refused: nothing is different then but the reason. */
    static void dueNotDone(CueStack stack, String text, int reason) {
        Stacks.type(stack, text);
        String before = Questions.answers(stack);
        Checks.dueThrow("read of " + text, STATE, stack::read);
        Checks.due("reason of " + text, stack.reason(), reason);
        Checks.due(text + " changes nothing", Questions.answers(stack).equals(before), true);
    }

    static void dueRead(CueStack stack, String text, int entries) {
        Stacks.type(stack, text);
        Checks.due("read of " + text, stack.read(), entries);
    }

    /** An input that is not a text: nothing is different then but the error position. */
    static void dueError(CueStack stack, String text, int position) {
        Stacks.type(stack, text);
        String before = Questions.answers(stack);
        Checks.dueThrow("read of " + text, BAD, stack::read);
        Checks.due("errorPosition of " + text, stack.errorPosition(), position);
        Checks.due(text + " changes nothing", Questions.answers(stack).equals(before), true);
    }

    static void dueInstruction(CueStack stack, int index, int... numbers) {
        for (int what = 0; what < numbers.length; what++) {
            Checks.due("instruction " + index + " " + what, stack.instruction(index, what),
                numbers[what]);
        }
    }

    /** The list has these instructions: cue, channel, level, part. */
    static void dueList(CueStack stack, int[]... list) {
        Checks.due("instructions", stack.account(1), list.length);
        for (int index = 0; index < list.length; index++) {
            dueInstruction(stack, index, list[index]);
        }
    }

    static void dueLevels(CueStack stack, int channel, int... levels) {
        for (int index = 0; index < levels.length; index++) {
            int cue = stack.cueAt(index);
            Checks.due("level of " + cue, stack.level(cue, channel), levels[index]);
            Checks.due("levelAgain of " + cue, stack.levelAgain(cue, channel), levels[index]);
        }
    }

    static void dueSources(CueStack stack, int channel, int... cues) {
        for (int index = 0; index < cues.length; index++) {
            int cue = stack.cueAt(index);
            Checks.due("source of " + cue, stack.source(cue, channel), cues[index]);
        }
    }

    /** The present levels of a channel, tenth by tenth, from now on. */
    static void dueNow(CueStack stack, int channel, int... levels) {
        for (int tenth = 0; tenth < levels.length; tenth++) {
            if (tenth > 0) {
                stack.pass(1);
            }
            Checks.due("now of " + channel + ", tenth " + tenth, stack.now(channel),
                levels[tenth]);
        }
    }

    /** The call knows no cue: without cues, beside cues, and when one is there no more. */
    static void dueNoSuchCue(String call, OfNumber called) {
        CueStack empty = new CueStack();
        for (int number : new int[] {1, 50, 99}) {
            dueThrow(empty, call + " of no cues", NO_INDEX, () -> called.answer(empty, number));
        }
        CueStack stack = Stacks.withCues(1, 40, 42, 99);
        for (int number : outside(1, 99)) {
            dueThrow(stack, call + " " + number, NO_INDEX, () -> called.answer(stack, number));
        }
        for (int number : new int[] {2, 39, 41, 43, 98}) {
            dueThrow(stack, call + " " + number, NO_INDEX, () -> called.answer(stack, number));
        }
        stack.removeCue(99, false);
        dueThrow(stack, call + ", removed", NO_INDEX, () -> called.answer(stack, 99));
        stack.addCue(7);
        stack.undo();
        dueThrow(stack, call + ", undone", NO_INDEX, () -> called.answer(stack, 7));
        stack.save();
        stack.addCue(8);
        stack.restore();
        dueThrow(stack, call + ", restored", NO_INDEX, () -> called.answer(stack, 8));
        stack.clear();
        dueThrow(stack, call + ", cleared", NO_INDEX, () -> called.answer(stack, 40));
    }

    /** The call takes 0 to most, and throws at all other numbers without any change. */
    static void dueFromZero(String call, int most, Class<? extends RuntimeException> want,
            OfNumber called) {
        CueStack stack = Stacks.busy();
        for (int number : outside(0, most)) {
            dueThrow(stack, call + " " + number, want, () -> called.answer(stack, number));
        }
        for (int number = 0; number <= most; number++) {
            CueStack another = Stacks.busy();
            int given = number;
            try {
                called.answer(another, given);
                Checks.due(call + " " + number + " is right", true, true);
            } catch (RuntimeException thrown) {
                Checks.tell(call + " " + number + " threw " + thrown);
            }
        }
    }
}
