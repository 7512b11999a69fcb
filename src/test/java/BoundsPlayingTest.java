/** The boundaries that promises 23 to 32 name. */
final class BoundsPlayingTest {
    public static void main(String[] args) throws IllegalAccessException {
        Checks.runAll(BoundsPlayingTest.class);
    }

    // ---- Promise 23

    @Says(promise = 23, value = "Returns its number.")
    static void goTellsTheNumber() {
        CueStack stack = Stacks.allCues();
        for (int number = 1; number <= 12; number++) {
            Checks.due("go", stack.go(), number);
        }
        CueStack far = Stacks.withCues(1, 99);
        far.go();
        Checks.due("the greatest", far.go(), 99);
    }

    @Says(promise = 23,
        value = "Throws `UnsupportedOperationException` if it is refused; the reason is then kept")
    static void goRefused() {
        CueStack stack = Stacks.allCues();
        stack.jump(12);
        stack.pass(5);
        Bounds.dueRefused(stack, "behind the last one", 4, stack::go);
        Checks.due("since", stack.playing(1), 5);
        stack.removeCue(12, false);
        Bounds.dueRefused(stack, "behind a removed one", 4, stack::go);
        stack.clear();
        Bounds.dueRefused(stack, "no cue", 4, stack::go);
        stack.addCue(1);
        stack.setProtected(1, true);
        Checks.due("a protected one", stack.go(), 1);
    }

    // ---- Promise 24

    @Says(promise = 24, value = "Lets the cue go that stands before the one that went last, which "
        + "has the greatest number below its number.")
    static void backGoesToTheGreatestBelow() {
        CueStack stack = Stacks.withCues(1, 50, 98, 99);
        stack.jump(99);
        Checks.due("back", stack.back(), 98);
        stack.addCue(97);
        Checks.due("a new one", stack.back(), 97);
        stack.removeCue(97, false);
        stack.removeCue(50, false);
        Checks.due("below a removed one", stack.back(), 1);
        stack.jump(98);
        stack.removeCue(98, false);
        stack.addCue(98);
        Checks.due("not the number itself", stack.back(), 1);
        Checks.due("last", stack.playing(0), 1);
        Checks.due("next", stack.playing(2), 98);
    }

    @Says(promise = 24, value = "Returns its number.")
    static void backTellsTheNumber() {
        CueStack stack = Stacks.allCues();
        stack.jump(12);
        for (int number = 11; number >= 1; number--) {
            Checks.due("back", stack.back(), number);
        }
    }

    @Says(promise = 24,
        value = "Throws `UnsupportedOperationException` if it is refused; the reason is then kept")
    static void backRefused() {
        CueStack stack = Stacks.allCues();
        Bounds.dueRefused(stack, "none went", 5, stack::back);
        stack.go();
        stack.pass(5);
        Bounds.dueRefused(stack, "from the first one", 5, stack::back);
        Checks.due("since", stack.playing(1), 5);
        stack.jump(12);
        Checks.due("back", stack.back(), 11);
        stack.clear();
        Bounds.dueRefused(stack, "no cue", 5, stack::back);
        stack.addCue(99);
        Bounds.dueRefused(stack, "none went", 5, stack::back);
    }

    // ---- Promise 25

    @Says(promise = 25, value = "Lets a cue go, wherever it stands.")
    static void jumpGoesAnywhere() {
        CueStack stack = Stacks.withCues(1, 50, 99);
        for (int cue : new int[] {99, 1, 50, 50, 99, 50, 1, 1}) {
            stack.pass(1);
            stack.jump(cue);
            Checks.due("last", stack.playing(0), cue);
            Checks.due("since", stack.playing(1), 0);
        }
        Checks.due("went", stack.account(5), 8);
        stack.setProtected(99, true);
        stack.setBlock(99, true);
        stack.jump(99);
        Checks.due("also a protected one", stack.playing(0), 99);
    }

    @Says(promise = 25, value = "Returns how many channels begin a fade by that.")
    static void jumpTellsTheFades() {
        CueStack stack = Stacks.full();
        Checks.due("all", stack.jump(1), 12);
        Checks.due("none", stack.jump(1), 0);
        stack.set(2, 0, 1, 0, false);
        stack.set(2, 11, 1, 0, false);
        stack.setPart(2, 0, false, 600);
        Checks.due("without the first and the last", stack.jump(2), 10);
        Checks.due("none in the midst of them", stack.jump(2), 0);
        Checks.due("back at once", stack.jump(1), 10);
        Checks.due("tracked", stack.jump(5), 12);
        Checks.due("the same levels", stack.jump(7), 0);
    }

    @Says(promise = 25, value = "Throws `IndexOutOfBoundsException` if there is no such cue")
    static void jumpToNone() {
        Bounds.dueNoSuchCue("jump", CueStack::jump);
    }

    // ---- Promise 26

    @Says(promise = 26, value = "`tenths`: the tenths, 0 to 6000")
    static void passTakes0To6000() {
        CueStack stack = Stacks.withCues(1, 2);
        stack.setFollow(1, 6000);
        stack.go();
        Checks.due("0", stack.pass(0), 0);
        Checks.due("passed", stack.account(6), 0);
        Checks.due("1", stack.pass(1), 0);
        Checks.due("passed", stack.account(6), 1);
        Checks.due("6000", stack.pass(6000), 1);
        Checks.due("passed", stack.account(6), 6001);
        Checks.due("since", stack.playing(1), 1);
    }

    @Says(promise = 26, value = "Returns how many cues go by that.")
    static void passTellsTheCues() {
        CueStack stack = Stacks.allCues();
        for (int cue = 1; cue <= 12; cue++) {
            stack.setFollow(cue, 2);
        }
        Checks.due("none went", stack.pass(6000), 0);
        stack.go();
        Checks.due("none", stack.pass(0), 0);
        Checks.due("none", stack.pass(1), 0);
        Checks.due("one", stack.pass(1), 1);
        Checks.due("two", stack.pass(5), 2);
        Checks.due("at the next tenth", stack.pass(1), 1);
        Checks.due("all that are left", stack.pass(6000), 7);
        Checks.due("none is left", stack.pass(6000), 0);
        Checks.due("went", stack.account(5), 12);
    }

    @Says(promise = 26, value = "Throws `IllegalArgumentException` if tenths is out of range")
    static void passOutOfRange() {
        Bounds.dueFromZero("pass", 6000, Bounds.BAD, CueStack::pass);
    }

    @Says(promise = 26, value = "Throws `IllegalStateException` if more than 100000 tenths would "
        + "have passed in all")
    static void passBeyondTheEnd() {
        CueStack stack = Stacks.atTheEndOfTime(1, 2);
        Checks.due("passed", stack.account(6), 100000);
        Checks.due("none more", stack.pass(0), 0);
        for (int tenths : new int[] {1, 2, 5999, 6000}) {
            Bounds.dueThrow(stack, "pass " + tenths, Bounds.STATE, () -> stack.pass(tenths));
        }
        Checks.due("undo", stack.undo(), 5);
        Checks.due("undo", stack.undo(), 4);
        Checks.due("passed", stack.account(6), 96000);
        Bounds.dueThrow(stack, "4001", Bounds.STATE, () -> stack.pass(4001));
        Checks.due("3999", stack.pass(3999), 0);
        Bounds.dueThrow(stack, "2", Bounds.STATE, () -> stack.pass(2));
        Checks.due("1", stack.pass(1), 0);
        Checks.due("passed", stack.account(6), 100000);
        Checks.due("cues go without time", stack.go(), 1);
        stack.clear();
        Checks.due("behind clear", stack.pass(6000), 0);
    }

    // ---- Promise 27

    @Says(promise = 27, value = "Throws `IndexOutOfBoundsException` if there is no such channel")
    static void nowOfNone() {
        Bounds.dueFromZero("now", 11, Bounds.NO_INDEX, CueStack::now);
    }

    // ---- Promise 28

    @Says(promise = 28, value = "Throws `IndexOutOfBoundsException` if there is no such channel")
    static void targetOfNone() {
        Bounds.dueFromZero("target", 11, Bounds.NO_INDEX, CueStack::target);
    }

    // ---- Promise 29

    @Says(promise = 29, value = "0 for the number of the cue that went last, 0 if none went")
    static void playing0IsTheCueThatWentLast() {
        CueStack stack = Stacks.withCues(1, 99);
        Checks.due("none", stack.playing(0), 0);
        stack.pass(1);
        Checks.due("none", stack.playing(0), 0);
        stack.jump(99);
        Checks.due("last", stack.playing(0), 99);
        stack.removeCue(99, false);
        Checks.due("removed", stack.playing(0), 99);
        stack.back();
        Checks.due("last", stack.playing(0), 1);
        stack.clear();
        Checks.due("none", stack.playing(0), 0);
    }

    @Says(promise = 29, value = "1 for the tenths since it went, 0 if none went")
    static void playing1IsTheTenthsSince() {
        CueStack stack = Stacks.withCues(1, 2);
        stack.pass(6000);
        Checks.due("none", stack.playing(1), 0);
        stack.go();
        Checks.due("just now", stack.playing(1), 0);
        stack.pass(0);
        Checks.due("just now", stack.playing(1), 0);
        stack.pass(1);
        Checks.due("one", stack.playing(1), 1);
        for (int time = 0; time < 15; time++) {
            stack.pass(6000);
        }
        Checks.due("many", stack.playing(1), 90001);
        stack.removeCue(1, false);
        stack.pass(1);
        Checks.due("removed", stack.playing(1), 90002);
        stack.jump(2);
        Checks.due("just now", stack.playing(1), 0);
    }

    @Says(promise = 29, value = "2 for the number of the next cue, 0 if there is none")
    static void playing2IsTheNextCue() {
        CueStack stack = new CueStack();
        Checks.due("none", stack.playing(2), 0);
        stack.addCue(99);
        Checks.due("the first one", stack.playing(2), 99);
        stack.go();
        Checks.due("none", stack.playing(2), 0);
        stack.addCue(98);
        Checks.due("none", stack.playing(2), 0);
        stack.jump(98);
        Checks.due("next", stack.playing(2), 99);
        stack.removeCue(99, false);
        Checks.due("none", stack.playing(2), 0);
    }

    @Says(promise = 29, value = "3 for the set of channels that are fading")
    static void playing3IsTheSetOfFadingChannels() {
        CueStack stack = Stacks.withCues(1);
        Checks.due("none", stack.playing(3), 0);
        for (int channel = 0; channel < 12; channel++) {
            stack.set(1, channel, 100, channel % 4, false);
        }
        for (int part = 0; part < 4; part++) {
            stack.setPart(1, part, false, part);
        }
        stack.go();
        Checks.due("parts 1 to 3", stack.playing(3), 0b111011101110);
        stack.pass(1);
        Checks.due("parts 2 and 3", stack.playing(3), 0b110011001100);
        stack.pass(1);
        Checks.due("part 3", stack.playing(3), 0b100010001000);
        stack.pass(1);
        Checks.due("none", stack.playing(3), 0);
    }

    @Says(promise = 29, value = "4 for the tenths until the cue that went last lets the next one "
        + "go, at least 1, or -1 if it will not")
    static void playing4IsTheTenthsUntil() {
        CueStack stack = Stacks.withCues(1, 2);
        stack.setFollow(1, 6000);
        Checks.due("none went", stack.playing(4), -1);
        stack.go();
        Checks.due("all", stack.playing(4), 6000);
        stack.pass(5999);
        Checks.due("one", stack.playing(4), 1);
        stack.setFollow(1, 5999);
        Checks.due("at least 1", stack.playing(4), 1);
        stack.setFollow(1, 1);
        Checks.due("at least 1", stack.playing(4), 1);
        stack.setFollow(1, -1);
        Checks.due("no follow time", stack.playing(4), -1);
        stack.setFollow(1, 6000);
        Checks.due("one", stack.playing(4), 1);
        stack.removeCue(2, false);
        Checks.due("no next cue", stack.playing(4), -1);
        stack.undo();
        stack.removeCue(1, false);
        Checks.due("it is removed", stack.playing(4), -1);
        stack.undo();
        Checks.due("then it goes", stack.pass(1), 1);
        Checks.due("the last cue", stack.playing(4), -1);
        stack.setFollow(2, 1);
        Checks.due("the last cue", stack.playing(4), -1);
    }

    @Says(promise = 29, value = "Throws `IllegalArgumentException` if what is not 0 to 4")
    static void playingOfWhatNot() {
        Bounds.dueFromZero("playing", 4, Bounds.BAD, CueStack::playing);
    }

    // ---- Promise 30

    @Says(promise = 30, value = "to the moment when the last cue that goes by follow times from it "
        + "on has gone")
    static void chainIsUpToTheLastThatGoes() {
        CueStack stack = Stacks.withCues(1, 2, 3, 4);
        stack.setFollow(1, 6000);
        stack.setFollow(2, 1);
        stack.setFollow(3, -1);
        stack.setFollow(4, 6000);
        Checks.due("two go", stack.chain(1), 6001);
        Checks.due("one goes", stack.chain(2), 1);
        stack.removeCue(2, false);
        Checks.due("one goes", stack.chain(1), 6000);
        stack.setFollow(3, 6000);
        Checks.due("two go", stack.chain(1), 12000);
        stack.jump(1);
        stack.pass(10);
        Checks.due("it does not depend on playing", stack.chain(1), 12000);
        stack.pass(5990);
        stack.pass(6000);
        Checks.due("all have gone", stack.playing(0), 4);
    }

    @Says(promise = 30, value = "Returns the tenths, 0 if none goes so.")
    static void chainIs0IfNoneGoes() {
        CueStack stack = Stacks.withCues(1, 2);
        Checks.due("no follow time", stack.chain(1), 0);
        stack.setFollow(2, 6000);
        Checks.due("no follow time", stack.chain(1), 0);
        Checks.due("no next cue", stack.chain(2), 0);
        stack.setFollow(1, 1);
        Checks.due("one goes", stack.chain(1), 1);
        stack.removeCue(2, false);
        Checks.due("no next cue", stack.chain(1), 0);
    }

    @Says(promise = 30, value = "Throws `IndexOutOfBoundsException` if there is no such cue")
    static void chainOfNone() {
        Bounds.dueNoSuchCue("chain", CueStack::chain);
    }

    // ---- Promise 31

    @Says(promise = 31, value = "0 for the cues, 1 for the instructions")
    static void accounts0And1() {
        CueStack stack = Stacks.full();
        Checks.due("cues", stack.account(0), 7);
        Checks.due("instructions", stack.account(1), 60);
        for (int number = 8; number <= 12; number++) {
            stack.addCue(number);
        }
        Checks.due("most", stack.account(0), 12);
        stack.clear();
        Checks.due("no cues", stack.account(0), 0);
        Checks.due("no instructions", stack.account(1), 0);
    }

    @Says(promise = 31, value = "2 for the sum of the present levels, 3 for the sum of the targets")
    static void accounts2And3() {
        CueStack stack = Stacks.withCues(1);
        for (int channel = 0; channel < 12; channel++) {
            stack.setHome(channel, 100);
        }
        stack.setPart(1, 0, true, 1);
        stack.setPart(1, 0, false, 3);
        Checks.due("least", stack.account(3), 0);
        stack.go();
        int[] due = {0, 0, 396, 792, 1200};
        for (int tenth = 0; tenth < due.length; tenth++) {
            Checks.due("present", stack.account(2), due[tenth]);
            Checks.due("targets", stack.account(3), 1200);
            stack.pass(1);
        }
        Checks.due("most", stack.account(2), 1200);
    }

    @Says(promise = 31, value = "4 for the channels that are fading")
    static void account4() {
        CueStack stack = Stacks.withCues(1);
        for (int channel = 0; channel < 12; channel++) {
            stack.set(1, channel, 1, channel / 3, false);
        }
        for (int part = 0; part < 4; part++) {
            stack.setPart(1, part, true, part);
        }
        Checks.due("none", stack.account(4), 0);
        stack.go();
        for (int fading = 9; fading >= 0; fading -= 3) {
            Checks.due("fading", stack.account(4), fading);
            stack.pass(1);
        }
        stack.clear();
        Checks.due("none", stack.account(4), 0);
    }

    @Says(promise = 31,
        value = "5 for the cues that went in all, 6 for the tenths that passed in all")
    static void accounts5And6() {
        CueStack stack = Stacks.withCues(1, 2, 3);
        stack.setFollow(1, 6000);
        stack.setFollow(2, 1);
        stack.go();
        Checks.due("one", stack.account(5), 1);
        stack.pass(6000);
        stack.pass(1);
        Checks.due("by follow times", stack.account(5), 3);
        stack.back();
        stack.jump(2);
        Bounds.dueRead(stack, "g;j1;t0;t6000;", 4);
        Checks.due("went", stack.account(5), 8);
        Checks.due("passed", stack.account(6), 12001);
        Bounds.dueNotDone(stack, "j1;t6000;j9;");
        stack.removeCue(3, false);
        Checks.due("went", stack.account(5), 8);
        Checks.due("passed", stack.account(6), 12001);
        Checks.due("most", Stacks.atTheEndOfTime().account(6), 100000);
    }

    @Says(promise = 31, value = "7 for the channels that move, summed over all cues")
    static void account7() {
        CueStack stack = Stacks.allCues();
        Checks.due("none", stack.account(7), 0);
        for (int cue = 1; cue <= 12; cue += 2) {
            for (int channel = 0; channel < 10; channel++) {
                stack.set(cue, channel, 50, 0, false);
            }
            stack.setBlock(cue + 1, true);
        }
        Checks.due("10 in each", stack.account(7), 120);
        stack.setBlock(12, false);
        Checks.due("but for the last", stack.account(7), 110);
        stack.removeCue(1, false);
        Checks.due("but for the first two", stack.account(7), 90);
    }

    @Says(promise = 31, value = "8 for the protected cues, 9 for the blocks, 10 for the releases")
    static void accounts8To10() {
        CueStack stack = Stacks.allCues();
        for (int cue = 1; cue <= 12; cue++) {
            for (int channel = 0; channel < 5; channel++) {
                stack.release(cue, channel, 0, false);
            }
            stack.setProtected(cue, true);
            stack.setBlock(cue, true);
            Checks.due("protected", stack.account(8), cue);
            Checks.due("blocks", stack.account(9), cue);
            Checks.due("releases", stack.account(10), 5 * cue);
        }
        stack.setProtected(1, false);
        stack.set(1, 0, 0, 0, false);
        Checks.due("a level is none", stack.account(10), 59);
        stack.removeCue(1, false);
        Checks.due("protected", stack.account(8), 11);
        Checks.due("blocks", stack.account(9), 11);
        Checks.due("releases", stack.account(10), 55);
    }

    @Says(promise = 31, value = "Throws `IllegalArgumentException` if account is not 0 to 10")
    static void accountOfNone() {
        Bounds.dueFromZero("account", 10, Bounds.BAD, CueStack::account);
    }

    // ---- Promise 32

    @Says(promise = 32, value = "the sum of the present levels divided by 12, both converted to "
        + "double")
    static void meanLevelIsADouble() {
        CueStack stack = Stacks.withCues(1);
        Checks.dueDouble("least", stack.meanLevel(), 0.0);
        stack.set(1, 0, 1, 0, false);
        stack.go();
        Checks.dueDouble("one", stack.meanLevel(), 1.0 / 12.0);
        for (int channel = 0; channel < 12; channel++) {
            stack.set(1, channel, 100, 0, false);
        }
        stack.set(1, 11, 99, 0, false);
        stack.jump(1);
        Checks.dueDouble("nearly most", stack.meanLevel(), 1199.0 / 12.0);
        stack.set(1, 11, 100, 0, false);
        stack.setPart(1, 0, true, 1);
        stack.jump(1);
        Checks.dueDouble("present, not target", stack.meanLevel(), 1199.0 / 12.0);
        stack.pass(1);
        Checks.dueDouble("most", stack.meanLevel(), 100.0);
    }
}
