import java.util.ArrayList;
import java.util.List;
import java.util.NoSuchElementException;
import java.util.TreeMap;
import java.util.regex.Matcher;
import java.util.regex.Pattern;

/**
 * The document once more, for RandomRunsTest: by copies of everything, tenth by tenth, and with as
 * little in common with the program as can be.
 */
final class PlainStack {
    private static final Pattern TEXT = Pattern.compile(
        "(?:[cxj][0-9]{1,2};|s[0-9]{1,2}/[0-9]{1,2}@[0-9]{1,3};|r[0-9]{1,2}/[0-9]{1,2};|g;"
        + "|t[0-9]{1,4};)+");

    private static final class Cue {
        int follow = -1;
        boolean block;
        boolean guarded;
        int[][] parts = new int[4][2];

        Cue copy() {
            Cue made = new Cue();
            made.follow = follow;
            made.block = block;
            made.guarded = guarded;
            for (int part = 0; part < 4; part++) {
                made.parts[part] = parts[part].clone();
            }
            return made;
        }
    }

    /** A level of -1 is a release. */
    private record Instruction(int cue, int channel, int level, int part) {
    }

    /** The fade began age tenths ago. */
    private record Fade(int start, int goal, int delay, int time, int age) {
        int present() {
            if (age >= delay + time) {
                return goal;
            }
            if (age <= delay) {
                return start;
            }
            return start + (goal - start) * (age - delay) / time;
        }

        Fade older() {
            return new Fade(start, goal, delay, time, age + 1);
        }
    }

    private static final class State {
        TreeMap<Integer, Cue> cues = new TreeMap<>();
        List<Instruction> list = new ArrayList<>();
        int[] homes = new int[12];
        Fade[] fades = new Fade[12];
        int last = 0;
        int since = 0;
        int gone = 0;
        int passed = 0;

        State() {
            for (int channel = 0; channel < 12; channel++) {
                fades[channel] = new Fade(0, 0, 0, 0, 0);
            }
        }

        State copy() {
            State made = new State();
            cues.forEach((number, cue) -> made.cues.put(number, cue.copy()));
            made.list = new ArrayList<>(list);
            made.homes = homes.clone();
            made.fades = fades.clone();
            made.last = last;
            made.since = since;
            made.gone = gone;
            made.passed = passed;
            return made;
        }

        Instruction find(int cue, int channel) {
            for (Instruction one : list) {
                if (one.cue == cue && one.channel == channel) {
                    return one;
                }
            }
            return null;
        }

        void put(Instruction given) {
            Instruction earlier = find(given.cue, given.channel);
            if (earlier == null) {
                list.add(given);
            } else {
                list.set(list.indexOf(earlier), given);
            }
        }

        int level(int cue, int channel) {
            Instruction own = find(cue, channel);
            if (own != null) {
                return own.level == -1 ? homes[channel] : own.level;
            }
            Integer before = cues.lowerKey(cue);
            if (before == null || cues.get(cue).block) {
                return homes[channel];
            }
            return level(before, channel);
        }

        int source(int cue, int channel) {
            Integer before = cues.lowerKey(cue);
            if (find(cue, channel) != null || cues.get(cue).block || before == null) {
                return cue;
            }
            return source(before, channel);
        }

        boolean moves(int cue, int channel) {
            Integer before = cues.lowerKey(cue);
            return level(cue, channel) != (before == null ? homes[channel] : level(before, channel));
        }

        int[] partFor(int cue, int channel) {
            Instruction own = find(cue, channel);
            return cues.get(cue).parts[own == null ? 0 : own.part];
        }

        int goes(int cue) {
            int begun = 0;
            for (int channel = 0; channel < 12; channel++) {
                int level = level(cue, channel);
                if (level != fades[channel].goal) {
                    int[] part = partFor(cue, channel);
                    fades[channel] = new Fade(fades[channel].present(), level, part[0], part[1], 0);
                    begun++;
                }
            }
            last = cue;
            since = 0;
            gone++;
            return begun;
        }

        Integer next() {
            return cues.higherKey(last);
        }

        boolean tenthPasses() {
            passed++;
            for (int channel = 0; channel < 12; channel++) {
                fades[channel] = fades[channel].older();
            }
            if (last > 0) {
                since++;
            }
            Cue cue = cues.get(last);
            if (cue == null || cue.follow == -1 || cue.follow > since || next() == null) {
                return false;
            }
            goes(next());
            return true;
        }
    }

    private State state = new State();
    private State saved = null;
    private final List<State> history = new ArrayList<>();
    private String input = "";
    private int kept = 0;
    private int position = -1;

    private void remember(State before) {
        history.add(before);
        if (history.size() > 6) {
            history.remove(0);
        }
    }

    private void needCue(int cue) {
        if (!state.cues.containsKey(cue)) {
            throw new IndexOutOfBoundsException();
        }
    }

    private static void needIndex(int index, int count) {
        if (index < 0 || index >= count) {
            throw new IndexOutOfBoundsException();
        }
    }

    private static void needRange(int number, int least, int most) {
        if (number < least || number > most) {
            throw new IllegalArgumentException();
        }
    }

    private UnsupportedOperationException refused(int why) {
        kept = why;
        return new UnsupportedOperationException();
    }

    int clear() {
        int count = state.cues.size();
        state = new State();
        history.clear();
        return count;
    }

    private int addTo(int number) {
        needRange(number, 1, 99);
        if (state.cues.containsKey(number)) {
            throw new IllegalArgumentException();
        }
        if (state.cues.size() == 12) {
            throw new IllegalStateException();
        }
        state.cues.put(number, new Cue());
        return state.cues.size();
    }

    int addCue(int number) {
        State before = state.copy();
        int answer = addTo(number);
        remember(before);
        return answer;
    }

    /** Puts the edited state in place of the present one, or refuses. */
    private void edit(int cue, State edited, boolean held, boolean lacks) {
        if (state.cues.get(cue).guarded) {
            throw refused(1);
        }
        Integer next = state.cues.higherKey(cue);
        List<Instruction> holding = new ArrayList<>();
        if (held && next != null && !state.cues.get(next).block) {
            for (int channel = 0; channel < 12; channel++) {
                int level = state.level(next, channel);
                if (state.find(next, channel) == null && edited.level(next, channel) != level) {
                    holding.add(new Instruction(next, channel, level, 0));
                }
            }
        }
        if (!holding.isEmpty() && state.cues.get(next).guarded) {
            throw refused(1);
        }
        if (edited.list.size() + holding.size() > 60) {
            throw refused(2);
        }
        if (lacks) {
            throw refused(3);
        }
        holding.forEach(edited::put);
        state = edited;
    }

    private int changed(State before, int channel) {
        int count = 0;
        for (int cue : before.cues.keySet()) {
            if (before.level(cue, channel) != state.level(cue, channel)) {
                count++;
            }
        }
        return count;
    }

    private int removeFrom(int cue, boolean held) {
        needCue(cue);
        int count = cue(cue, 4);
        State edited = state.copy();
        edited.list.removeIf(one -> one.cue == cue);
        edited.cues.remove(cue);
        edit(cue, edited, held, false);
        return count;
    }

    int removeCue(int cue, boolean held) {
        State before = state.copy();
        int answer = removeFrom(cue, held);
        remember(before);
        return answer;
    }

    int cueAt(int index) {
        if (index < 0 || index >= state.cues.size()) {
            throw new NoSuchElementException();
        }
        return new ArrayList<>(state.cues.keySet()).get(index);
    }

    int setFollow(int cue, int tenths) {
        needCue(cue);
        if (tenths != -1) {
            needRange(tenths, 1, 6000);
        }
        remember(state.copy());
        int before = state.cues.get(cue).follow;
        state.cues.get(cue).follow = tenths;
        return before;
    }

    int setBlock(int cue, boolean block) {
        needCue(cue);
        State before = state.copy();
        state.cues.get(cue).block = block;
        int count = 0;
        for (int channel = 0; channel < 12; channel++) {
            if (before.level(cue, channel) != state.level(cue, channel)) {
                count++;
            }
        }
        remember(before);
        return count;
    }

    boolean setProtected(int cue, boolean guarded) {
        needCue(cue);
        remember(state.copy());
        boolean before = state.cues.get(cue).guarded;
        state.cues.get(cue).guarded = guarded;
        return before;
    }

    int setPart(int cue, int part, boolean delay, int tenths) {
        needCue(cue);
        needIndex(part, 4);
        needRange(tenths, 0, 600);
        remember(state.copy());
        int before = part(cue, part, delay);
        state.cues.get(cue).parts[part][delay ? 0 : 1] = tenths;
        return before;
    }

    int cue(int cue, int what) {
        needCue(cue);
        needRange(what, 0, 6);
        Cue asked = state.cues.get(cue);
        int moving = 0;
        int length = 0;
        int count = 0;
        for (int channel = 0; channel < 12; channel++) {
            if (state.moves(cue, channel)) {
                moving += 1 << channel;
                int[] part = state.partFor(cue, channel);
                length = Math.max(length, part[0] + part[1]);
            }
            if (state.find(cue, channel) != null) {
                count++;
            }
        }
        int[] answers = {state.cues.headMap(cue).size(), asked.follow, asked.block ? 1 : 0,
            asked.guarded ? 1 : 0, count, moving, length};
        return answers[what];
    }

    int part(int cue, int part, boolean delay) {
        needCue(cue);
        needIndex(part, 4);
        return state.cues.get(cue).parts[part][delay ? 0 : 1];
    }

    int setHome(int channel, int level) {
        needIndex(channel, 12);
        needRange(level, 0, 100);
        remember(state.copy());
        int before = state.homes[channel];
        state.homes[channel] = level;
        return before;
    }

    private int giveIn(int cue, int channel, int level, int part, boolean held) {
        State before = state.copy();
        State edited = state.copy();
        edited.put(new Instruction(cue, channel, level, part));
        edit(cue, edited, held, false);
        return changed(before, channel);
    }

    private int setIn(int cue, int channel, int level, int part, boolean held) {
        needCue(cue);
        needIndex(channel, 12);
        needIndex(part, 4);
        needRange(level, 0, 100);
        return giveIn(cue, channel, level, part, held);
    }

    int set(int cue, int channel, int level, int part, boolean held) {
        State before = state.copy();
        int answer = setIn(cue, channel, level, part, held);
        remember(before);
        return answer;
    }

    private int releaseIn(int cue, int channel, int part, boolean held) {
        needCue(cue);
        needIndex(channel, 12);
        needIndex(part, 4);
        return giveIn(cue, channel, -1, part, held);
    }

    int release(int cue, int channel, int part, boolean held) {
        State before = state.copy();
        int answer = releaseIn(cue, channel, part, held);
        remember(before);
        return answer;
    }

    int unset(int cue, int channel, boolean held) {
        needCue(cue);
        needIndex(channel, 12);
        State before = state.copy();
        State edited = state.copy();
        boolean lacks = !edited.list.removeIf(one -> one.cue == cue && one.channel == channel);
        edit(cue, edited, held, lacks);
        remember(before);
        return changed(before, channel);
    }

    int instruction(int index, int what) {
        if (index < 0 || index >= state.list.size()) {
            throw new NoSuchElementException();
        }
        needRange(what, 0, 3);
        Instruction one = state.list.get(index);
        return new int[] {one.cue, one.channel, one.level, one.part}[what];
    }

    int level(int cue, int channel) {
        needCue(cue);
        needIndex(channel, 12);
        return state.level(cue, channel);
    }

    int source(int cue, int channel) {
        needCue(cue);
        needIndex(channel, 12);
        return state.source(cue, channel);
    }

    int sum(int cue) {
        needCue(cue);
        int total = 0;
        for (int channel = 0; channel < 12; channel++) {
            total += state.level(cue, channel);
        }
        return total;
    }

    int apart(int cue, int other) {
        needCue(cue);
        needCue(other);
        int count = 0;
        for (int channel = 0; channel < 12; channel++) {
            if (state.level(cue, channel) != state.level(other, channel)) {
                count++;
            }
        }
        return count;
    }

    int reason() {
        if (kept == 0) {
            throw new NoSuchElementException();
        }
        return kept;
    }

    private int goNow() {
        Integer next = state.next();
        if (next == null) {
            throw refused(4);
        }
        state.goes(next);
        return next;
    }

    int go() {
        State before = state.copy();
        int answer = goNow();
        remember(before);
        return answer;
    }

    int back() {
        Integer lower = state.last == 0 ? null : state.cues.lowerKey(state.last);
        if (lower == null) {
            throw refused(5);
        }
        remember(state.copy());
        state.goes(lower);
        return lower;
    }

    int jump(int cue) {
        needCue(cue);
        remember(state.copy());
        return state.goes(cue);
    }

    private int passNow(int tenths) {
        needRange(tenths, 0, 6000);
        if (state.passed + tenths > 100000) {
            throw new IllegalStateException();
        }
        int count = 0;
        for (int tenth = 0; tenth < tenths; tenth++) {
            if (state.tenthPasses()) {
                count++;
            }
        }
        return count;
    }

    int pass(int tenths) {
        State before = state.copy();
        int answer = passNow(tenths);
        remember(before);
        return answer;
    }

    int now(int channel) {
        needIndex(channel, 12);
        return state.fades[channel].present();
    }

    int target(int channel) {
        needIndex(channel, 12);
        return state.fades[channel].goal;
    }

    private int fadingSet() {
        int set = 0;
        for (int channel = 0; channel < 12; channel++) {
            Fade fade = state.fades[channel];
            if (fade.age < fade.delay + fade.time) {
                set += 1 << channel;
            }
        }
        return set;
    }

    /** Tries it out, tenth by tenth. */
    private int untilFollow() {
        Cue last = state.cues.get(state.last);
        if (last == null || last.follow == -1) {
            return -1;
        }
        State tried = state.copy();
        for (int tenth = 1; tenth <= 6000; tenth++) {
            if (tried.tenthPasses()) {
                return tenth;
            }
        }
        return -1;
    }

    int playing(int what) {
        needRange(what, 0, 4);
        switch (what) {
            case 0: return state.last;
            case 1: return state.since;
            case 2: return state.next() == null ? 0 : state.next();
            case 3: return fadingSet();
            default: return untilFollow();
        }
    }

    int chain(int cue) {
        needCue(cue);
        int total = 0;
        Integer at = cue;
        while (state.cues.get(at).follow != -1 && state.cues.higherKey(at) != null) {
            total += state.cues.get(at).follow;
            at = state.cues.higherKey(at);
        }
        return total;
    }

    private int presentSum() {
        int total = 0;
        for (Fade fade : state.fades) {
            total += fade.present();
        }
        return total;
    }

    int account(int account) {
        needRange(account, 0, 10);
        int goals = 0;
        int moving = 0;
        int guarded = 0;
        int blocks = 0;
        int releases = 0;
        for (Fade fade : state.fades) {
            goals += fade.goal;
        }
        for (int number : state.cues.keySet()) {
            guarded += state.cues.get(number).guarded ? 1 : 0;
            blocks += state.cues.get(number).block ? 1 : 0;
            for (int channel = 0; channel < 12; channel++) {
                moving += state.moves(number, channel) ? 1 : 0;
            }
        }
        for (Instruction one : state.list) {
            releases += one.level == -1 ? 1 : 0;
        }
        return new int[] {state.cues.size(), state.list.size(), presentSum(), goals,
            Integer.bitCount(fadingSet()), state.gone, state.passed, moving, guarded, blocks,
            releases}[account];
    }

    double meanLevel() {
        return (double) presentSum() / 12.0;
    }

    int append(char character) {
        needRange(character, 32, 126);
        if (input.length() == 60) {
            throw new IllegalStateException();
        }
        input += character;
        return input.length();
    }

    private void entry(String entry) {
        String[] numbers = entry.substring(1).split("[/@]");
        int first = numbers[0].isEmpty() ? 0 : Integer.parseInt(numbers[0]);
        int second = numbers.length > 1 ? Integer.parseInt(numbers[1]) : 0;
        switch (entry.charAt(0)) {
            case 'c' -> addTo(first);
            case 'x' -> removeFrom(first, false);
            case 's' -> setIn(first, second, Integer.parseInt(numbers[2]), 0, false);
            case 'r' -> releaseIn(first, second, 0, false);
            case 'g' -> goNow();
            case 'j' -> {
                needCue(first);
                state.goes(first);
            }
            default -> passNow(first);
        }
    }

    int read() {
        String text = input;
        input = "";
        if (!TEXT.matcher(text).matches()) {
            position = text.length();
            for (int index = text.length() - 1; index >= 0; index--) {
                Matcher matcher = TEXT.matcher(text.substring(0, index + 1));
                if (!matcher.matches() && !matcher.hitEnd()) {
                    position = index;
                }
            }
            throw new IllegalArgumentException();
        }
        State before = state.copy();
        String[] entries = text.split(";");
        for (String one : entries) {
            try {
                entry(one);
            } catch (RuntimeException thrown) {
                state = before;
                throw new IllegalStateException();
            }
        }
        remember(before);
        return entries.length;
    }

    int errorPosition() {
        if (position == -1) {
            throw new NoSuchElementException();
        }
        return position;
    }

    int undo() {
        if (history.isEmpty()) {
            throw new NoSuchElementException();
        }
        state = history.remove(history.size() - 1);
        return history.size();
    }

    int save() {
        saved = state.copy();
        return state.cues.size();
    }

    int restore() {
        if (saved == null) {
            throw new IllegalStateException();
        }
        state = saved.copy();
        history.clear();
        return state.cues.size();
    }
}
