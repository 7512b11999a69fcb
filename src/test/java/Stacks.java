/** Stacks that more than one test begins with. */
final class Stacks {
    private Stacks() {
    }

    /** A new stack with cues of these numbers. */
    static CueStack withCues(int... numbers) {
        CueStack stack = new CueStack();
        for (int number : numbers) {
            stack.addCue(number);
        }
        return stack;
    }

    /** All 12 cues, with the numbers 1 to 12. */
    static CueStack allCues() {
        return withCues(1, 2, 3, 4, 5, 6, 7, 8, 9, 10, 11, 12);
    }

    /** Five cues with 12 instructions each, and two more cues without. */
    static CueStack full() {
        CueStack stack = withCues(1, 2, 3, 4, 5, 6, 7);
        for (int cue = 1; cue <= 5; cue++) {
            for (int channel = 0; channel < 12; channel++) {
                stack.set(cue, channel, cue, 0, false);
            }
        }
        return stack;
    }

    /** A stack in the midst of fades, with something of everything. */
    static CueStack busy() {
        CueStack stack = withCues(10, 20, 30, 40);
        stack.setHome(2, 5);
        stack.set(10, 0, 80, 1, false);
        stack.set(20, 0, 20, 2, false);
        stack.release(20, 2, 3, false);
        stack.set(30, 7, 70, 0, false);
        stack.setPart(10, 1, false, 20);
        stack.setPart(20, 2, true, 3);
        stack.setPart(20, 2, false, 30);
        stack.setFollow(20, 50);
        stack.setBlock(40, true);
        stack.go();
        stack.pass(9);
        stack.go();
        stack.pass(4);
        return stack;
    }

    /** A stack of which no tenth more can pass; no cue went. */
    static CueStack atTheEndOfTime(int... numbers) {
        CueStack stack = withCues(numbers);
        for (int time = 0; time < 16; time++) {
            stack.pass(6000);
        }
        stack.pass(4000);
        return stack;
    }

    static void type(CueStack stack, String text) {
        for (int index = 0; index < text.length(); index++) {
            stack.append(text.charAt(index));
        }
    }
}
