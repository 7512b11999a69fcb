import java.util.NoSuchElementException;

/** Promises 23 to 32: playing and the accounts. */
final class PlayingTest {
    private static final Class<IndexOutOfBoundsException> NO_INDEX = IndexOutOfBoundsException.class;
    private static final Class<IllegalArgumentException> BAD = IllegalArgumentException.class;
    private static final Class<IllegalStateException> STATE = IllegalStateException.class;
    private static final Class<UnsupportedOperationException> REFUSED =
        UnsupportedOperationException.class;

    public static void main(String[] args) throws IllegalAccessException {
        Checks.runAll(PlayingTest.class);
    }

    static void promise23Go() {
        CueStack stack = Stacks.withCues(10, 20, 30);
        Checks.due("go", stack.go(), 10);
        Checks.due("go", stack.go(), 20);
        stack.removeCue(20, false);
        stack.addCue(15);
        stack.addCue(25);
        Checks.due("above the removed one", stack.go(), 25);
        Checks.due("go", stack.go(), 30);
        Checks.dueThrow("no next", REFUSED, stack::go);
        Checks.due("reason", stack.reason(), 4);
        Checks.due("last", stack.playing(0), 30);
        Checks.due("went", stack.account(5), 4);
        stack.addCue(99);
        Checks.due("go", stack.go(), 99);
        CueStack empty = new CueStack();
        Checks.dueThrow("no cue", REFUSED, empty::go);
        Checks.due("reason", empty.reason(), 4);
    }

    static void promise23GoFades() {
        CueStack stack = Stacks.withCues(1, 2, 3);
        stack.set(1, 0, 80, 0, false);
        stack.set(2, 0, 20, 1, false);
        stack.set(2, 1, 50, 2, false);
        stack.setPart(2, 0, false, 600);
        stack.setPart(2, 1, true, 2);
        stack.setPart(2, 1, false, 4);
        stack.setPart(3, 1, false, 600);
        stack.setBlock(3, true);
        stack.setPart(3, 0, false, 5);
        stack.go();
        Checks.due("at once", stack.now(0), 80);
        Checks.due("never fading", stack.playing(3), 0);
        stack.go();
        Checks.due("its part", stack.playing(3), 1);
        Checks.due("at once", stack.now(1), 50);
        stack.pass(3);
        Checks.due("now", stack.now(0), 65);
        stack.setPart(2, 1, false, 600);
        stack.set(2, 0, 90, 1, false);
        Checks.due("editing changes no fade", stack.now(0), 65);
        Checks.due("editing changes no target", stack.target(0), 20);
        stack.go();
        Checks.due("from where it is", stack.now(0), 65);
        Checks.due("target", stack.target(0), 0);
        Checks.due("part 0, not that of the source", stack.playing(3), 3);
        stack.pass(1);
        Checks.due("now", stack.now(0), 52);
        Checks.due("now", stack.now(1), 40);
        stack.pass(4);
        Checks.due("now", stack.now(0), 0);
        Checks.due("fading", stack.playing(3), 0);
    }

    static void promise23TargetsThatStayGoOn() {
        CueStack stack = Stacks.withCues(1, 2);
        stack.set(1, 0, 100, 0, false);
        stack.setPart(1, 0, false, 100);
        stack.setPart(2, 0, false, 10);
        stack.go();
        stack.pass(30);
        stack.go();
        stack.pass(30);
        Checks.due("the fade of the first one", stack.now(0), 60);
        Checks.due("fading", stack.playing(3), 1);
    }

    static void promise24Back() {
        CueStack stack = Stacks.withCues(10, 20, 30);
        Checks.dueThrow("none went", REFUSED, stack::back);
        Checks.due("reason", stack.reason(), 5);
        stack.go();
        Checks.dueThrow("none lower", REFUSED, stack::back);
        Checks.due("last", stack.playing(0), 10);
        stack.jump(30);
        Checks.due("back", stack.back(), 20);
        stack.jump(30);
        stack.removeCue(20, false);
        stack.removeCue(30, false);
        Checks.due("below the removed one", stack.back(), 10);
        Checks.due("went", stack.account(5), 5);
        stack.addCue(5);
        stack.set(5, 3, 33, 0, false);
        Checks.due("back", stack.back(), 5);
        Checks.due("target", stack.target(3), 33);
        Checks.due("next", stack.playing(2), 10);
        Checks.dueThrow("none lower", REFUSED, stack::back);
        Checks.due("reason", stack.reason(), 5);
    }

    static void promise25Jump() {
        CueStack stack = Stacks.withCues(1, 2, 3);
        stack.set(1, 0, 1, 0, false);
        stack.set(1, 1, 2, 0, false);
        stack.set(2, 1, 3, 0, false);
        stack.set(3, 2, 4, 0, false);
        Checks.due("jump", stack.jump(3), 3);
        Checks.due("again", stack.jump(3), 0);
        Checks.due("jump", stack.jump(1), 2);
        Checks.due("jump", stack.jump(2), 1);
        Checks.due("last", stack.playing(0), 2);
        Checks.due("went", stack.account(5), 4);
        stack.pass(7);
        Checks.due("since", stack.playing(1), 7);
        stack.jump(2);
        Checks.due("since", stack.playing(1), 0);
        Checks.dueThrow("no cue", NO_INDEX, () -> stack.jump(4));
        Checks.dueThrow("no cue", NO_INDEX, () -> stack.jump(0));
        Checks.due("last", stack.playing(0), 2);
        stack.setProtected(1, true);
        Checks.due("a protected one goes", stack.jump(1), 1);
    }

    static void promise26Pass() {
        CueStack stack = Stacks.withCues(1, 2, 3, 4);
        stack.setFollow(1, 5);
        stack.setFollow(2, 1);
        stack.setFollow(4, 1);
        Checks.due("none went", stack.pass(100), 0);
        stack.go();
        Checks.due("pass", stack.pass(4), 0);
        Checks.due("nothing passes", stack.pass(0), 0);
        Checks.due("one", stack.pass(1), 1);
        Checks.due("last", stack.playing(0), 2);
        Checks.due("since", stack.playing(1), 0);
        stack.jump(1);
        Checks.due("both", stack.pass(6000), 2);
        Checks.due("last", stack.playing(0), 3);
        Checks.due("since", stack.playing(1), 5994);
        stack.go();
        Checks.due("no next cue", stack.pass(10), 0);
        stack.addCue(5);
        Checks.due("at the first tenth", stack.pass(10), 1);
        Checks.due("since", stack.playing(1), 9);
        Checks.due("passed", stack.account(6), 6125);
    }

    static void promise26OneCueATenth() {
        CueStack stack = Stacks.withCues(1, 2, 3);
        stack.setFollow(2, 1);
        stack.go();
        stack.pass(50);
        stack.setFollow(1, 50);
        Checks.due("nothing passes", stack.pass(0), 0);
        Checks.due("one alone", stack.pass(1), 1);
        Checks.due("last", stack.playing(0), 2);
        Checks.due("the next tenth", stack.pass(1), 1);
        Checks.due("last", stack.playing(0), 3);
    }

    static void promise26RemovedDoesNotFollow() {
        CueStack stack = Stacks.withCues(1, 2);
        stack.setFollow(1, 3);
        stack.go();
        stack.removeCue(1, false);
        Checks.due("pass", stack.pass(10), 0);
        Checks.due("since goes on", stack.playing(1), 10);
        Checks.due("until", stack.playing(4), -1);
        Checks.due("next", stack.playing(2), 2);
    }

    static void promise26FadesInAPass() {
        CueStack stack = Stacks.withCues(1, 2);
        stack.set(1, 0, 100, 0, false);
        stack.setPart(1, 0, false, 10);
        stack.setPart(2, 0, true, 2);
        stack.setPart(2, 0, false, 10);
        stack.setFollow(1, 5);
        stack.setBlock(2, true);
        stack.go();
        Checks.due("pass", stack.pass(8), 1);
        Checks.due("from 50, one tenth behind the delay", stack.now(0), 45);
    }

    static void promise26Limits() {
        CueStack stack = Stacks.withCues(1, 2);
        Checks.dueThrow("-1", BAD, () -> stack.pass(-1));
        Checks.dueThrow("6001", BAD, () -> stack.pass(6001));
        Checks.dueThrow("most", BAD, () -> stack.pass(Integer.MAX_VALUE));
        Checks.dueThrow("least", BAD, () -> stack.pass(Integer.MIN_VALUE));
        for (int time = 0; time < 16; time++) {
            stack.pass(6000);
        }
        stack.setFollow(1, 10);
        stack.go();
        Checks.dueThrow("100001", STATE, () -> stack.pass(4001));
        Checks.due("nothing passed", stack.playing(0), 1);
        Checks.dueThrow("out of range comes first", BAD, () -> stack.pass(6001));
        Checks.due("100000", stack.pass(4000), 1);
        Checks.due("passed", stack.account(6), 100000);
        Checks.due("none more", stack.pass(0), 0);
        Checks.dueThrow("one more", STATE, () -> stack.pass(1));
        stack.undo();
        stack.undo();
        Checks.due("passed", stack.account(6), 96000);
    }

    static void promise27Now() {
        CueStack stack = Stacks.withCues(1, 2);
        stack.set(1, 0, 10, 0, false);
        stack.set(1, 1, 100, 1, false);
        stack.setPart(1, 0, true, 3);
        stack.setPart(1, 0, false, 3);
        stack.setPart(1, 1, true, 4);
        stack.go();
        int[] due = {0, 0, 0, 0, 3, 6, 10, 10};
        for (int tenth = 0; tenth < due.length; tenth++) {
            Checks.due("now", stack.now(0), due[tenth]);
            Checks.due("delay alone", stack.now(1), tenth < 4 ? 0 : 100);
            stack.pass(1);
        }
        stack.release(2, 0, 0, false);
        stack.setPart(2, 0, false, 7);
        stack.go();
        int[] down = {10, 9, 8, 6, 5, 3, 2, 0};
        for (int tenth = 0; tenth < down.length; tenth++) {
            Checks.due("rounded towards 0", stack.now(0), down[tenth]);
            stack.pass(1);
        }
        Checks.dueThrow("no channel", NO_INDEX, () -> stack.now(12));
        Checks.dueThrow("no channel", NO_INDEX, () -> stack.now(-1));
    }

    static void promise28Target() {
        CueStack stack = Stacks.withCues(1, 2);
        stack.set(1, 11, 40, 0, false);
        stack.setPart(1, 0, false, 600);
        stack.setHome(3, 30);
        Checks.due("not yet", stack.target(11), 0);
        stack.go();
        Checks.due("target", stack.target(11), 40);
        Checks.due("home", stack.target(3), 30);
        stack.set(1, 11, 41, 0, false);
        stack.setHome(3, 31);
        Checks.due("not by editing", stack.target(11), 40);
        Checks.due("not by home", stack.target(3), 30);
        stack.go();
        Checks.due("by the next", stack.target(11), 41);
        Checks.due("by the next", stack.target(3), 31);
        stack.removeCue(1, false);
        stack.removeCue(2, false);
        Checks.due("removed", stack.target(11), 41);
        Checks.dueThrow("no channel", NO_INDEX, () -> stack.target(12));
        Checks.dueThrow("no channel", NO_INDEX, () -> stack.target(-1));
    }

    static void promise29Playing() {
        CueStack stack = Stacks.withCues(5, 6, 7);
        Checks.due("next", stack.playing(2), 5);
        Checks.due("until", stack.playing(4), -1);
        stack.setFollow(5, 10);
        stack.setFollow(7, 10);
        stack.pass(2);
        Checks.due("since", stack.playing(1), 0);
        stack.go();
        Checks.due("last", stack.playing(0), 5);
        Checks.due("next", stack.playing(2), 6);
        Checks.due("until", stack.playing(4), 10);
        stack.pass(9);
        Checks.due("since", stack.playing(1), 9);
        Checks.due("until", stack.playing(4), 1);
        stack.setFollow(5, 2);
        Checks.due("at least 1", stack.playing(4), 1);
        stack.pass(1);
        Checks.due("last", stack.playing(0), 6);
        Checks.due("no follow time", stack.playing(4), -1);
        stack.jump(7);
        Checks.due("no next", stack.playing(2), 0);
        Checks.due("it will not", stack.playing(4), -1);
        stack.addCue(8);
        Checks.due("it will", stack.playing(4), 10);
        stack.removeCue(7, false);
        Checks.due("removed", stack.playing(4), -1);
        Checks.due("next", stack.playing(2), 8);
        Checks.dueThrow("-1", BAD, () -> stack.playing(-1));
        Checks.dueThrow("5", BAD, () -> stack.playing(5));
    }

    static void promise29Fading() {
        CueStack stack = Stacks.withCues(1, 2);
        stack.set(1, 0, 40, 0, false);
        stack.set(1, 4, 40, 1, false);
        stack.set(1, 11, 40, 2, false);
        stack.setPart(1, 0, true, 3);
        stack.setPart(1, 1, false, 5);
        stack.go();
        Checks.due("fading", stack.playing(3), 0b10001);
        stack.pass(2);
        Checks.due("fading", stack.playing(3), 0b10001);
        stack.pass(1);
        Checks.due("fading", stack.playing(3), 0b10000);
        Checks.due("now", stack.now(4), 24);
        stack.set(2, 4, 24, 3, false);
        stack.setPart(2, 3, false, 9);
        stack.go();
        stack.pass(8);
        Checks.due("to a level that is there", stack.playing(3), 0b10000);
        Checks.due("now", stack.now(4), 24);
        stack.pass(1);
        Checks.due("over", stack.playing(3), 0);
    }

    static void promise30Chain() {
        CueStack stack = Stacks.withCues(1, 2, 3, 4);
        Checks.due("none", stack.chain(1), 0);
        stack.setFollow(1, 6000);
        stack.setFollow(2, 5);
        stack.setFollow(4, 7);
        Checks.due("two go", stack.chain(1), 6005);
        Checks.due("one goes", stack.chain(2), 5);
        Checks.due("none", stack.chain(3), 0);
        Checks.due("not of the last one", stack.chain(4), 0);
        stack.setFollow(3, 2);
        Checks.due("up to the last one", stack.chain(2), 7);
        stack.setFollow(2, -1);
        Checks.due("broken", stack.chain(1), 6000);
        Checks.dueThrow("no cue", NO_INDEX, () -> stack.chain(5));
    }

    static void promise31Account() {
        CueStack stack = Stacks.withCues(1, 2, 3);
        stack.set(1, 0, 50, 0, false);
        stack.set(1, 1, 30, 0, false);
        stack.set(2, 1, 30, 0, false);
        stack.release(2, 0, 0, false);
        stack.release(3, 5, 0, false);
        stack.setPart(1, 0, false, 10);
        stack.setBlock(3, true);
        stack.setProtected(1, true);
        stack.setProtected(2, true);
        stack.go();
        stack.pass(5);
        int[] due = {3, 5, 40, 80, 2, 1, 5, 4, 2, 1, 2};
        for (int account = 0; account < due.length; account++) {
            Checks.due("account " + account, stack.account(account), due[account]);
        }
        Checks.dueThrow("-1", BAD, () -> stack.account(-1));
        Checks.dueThrow("11", BAD, () -> stack.account(11));
        stack.setProtected(1, false);
        stack.setBlock(3, false);
        stack.pass(5);
        Checks.due("protected", stack.account(8), 1);
        Checks.due("blocks", stack.account(9), 0);
        Checks.due("moves", stack.account(7), 3);
        Checks.due("fading", stack.account(4), 0);
        Checks.due("present", stack.account(2), 80);
    }

    static void promise31CountsNothingThatIsNoMore() {
        CueStack stack = Stacks.withCues(1, 2);
        stack.setProtected(2, true);
        stack.setBlock(2, true);
        stack.undo();
        stack.undo();
        stack.removeCue(2, false);
        Checks.due("protected", stack.account(8), 0);
        stack.addCue(2);
        stack.setBlock(2, true);
        stack.setProtected(2, true);
        stack.undo();
        stack.undo();
        stack.undo();
        stack.setBlock(1, true);
        stack.setProtected(1, true);
        Checks.due("cues", stack.account(0), 1);
        Checks.due("blocks", stack.account(9), 1);
        Checks.due("protected", stack.account(8), 1);
    }

    static void promise31Full() {
        CueStack stack = Stacks.withCues(1, 2, 3, 4, 5, 6, 7, 8, 9, 10, 11, 12);
        for (int cue = 1; cue <= 12; cue++) {
            stack.setBlock(cue, true);
            for (int channel = 0; channel < 5; channel++) {
                stack.release(cue, channel, 0, false);
            }
        }
        for (int cue = 1; cue <= 12; cue++) {
            stack.setProtected(cue, true);
        }
        Checks.due("instructions", stack.account(1), 60);
        Checks.due("releases", stack.account(10), 60);
        Checks.due("blocks", stack.account(9), 12);
        Checks.due("protected", stack.account(8), 12);
    }

    static void promise31CuesThatWent() {
        CueStack stack = Stacks.withCues(1, 2, 3);
        stack.setFollow(2, 1);
        stack.go();
        stack.go();
        stack.pass(1);
        stack.back();
        stack.jump(1);
        Checks.due("went", stack.account(5), 5);
        Stacks.type(stack, "g;j2;t1;");
        stack.read();
        Checks.due("went", stack.account(5), 8);
        stack.undo();
        Checks.due("went", stack.account(5), 5);
    }

    static void promise32MeanLevel() {
        CueStack stack = Stacks.withCues(1);
        Checks.dueDouble("meanLevel", stack.meanLevel(), 0.0);
        stack.set(1, 0, 7, 0, false);
        stack.set(1, 3, 100, 0, false);
        stack.go();
        Checks.dueDouble("meanLevel", stack.meanLevel(), 107.0 / 12.0);
        for (int channel = 0; channel < 12; channel++) {
            stack.set(1, channel, 100, 0, false);
        }
        stack.jump(1);
        Checks.dueDouble("meanLevel", stack.meanLevel(), 100.0);
    }
}
