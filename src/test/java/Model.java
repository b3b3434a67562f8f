import java.util.ArrayDeque;
import java.util.ArrayList;
import java.util.Deque;
import java.util.HashSet;
import java.util.LinkedHashMap;
import java.util.List;
import java.util.Map;
import java.util.Objects;
import java.util.Set;
import java.util.TreeSet;
import java.util.regex.Matcher;
import java.util.regex.Pattern;

/**
 * The document said a second time, in another way than the class: with lists and maps, an exception for a ring,
 * answers afresh by plain recursion, and texts by a regular expression. A null answer is "too great".
 */
final class Model {
    private static final int INVALID = -2000000001;
    private static final int IMPOSSIBLE = -2000000002;
    private static final int LIMIT = -2000000003;
    private static final int MISSING = -2000000004;
    private static final Pattern FORM =
        Pattern.compile("[a-j]=(-?[0-9]{1,5}|[a-j][-+*^][a-j]|[a-j]\\?[a-j]:[a-j]);");

    /** Kind -1 is a value, the one item of the list; otherwise the list has the cells. */
    private record Meaning(int kind, List<Integer> parts) {
    }

    private static final class Ring extends Exception {
        private static final long serialVersionUID = 1L;
    }

    private static final class Answer {
        Long number;
        List<Integer> used = new ArrayList<>();
        int changed;
        int seen;

        Answer twin() {
            Answer twin = new Answer();
            twin.number = number;
            twin.used = new ArrayList<>(used);
            twin.changed = changed;
            twin.seen = seen;
            return twin;
        }
    }

    private static final class World {
        final List<Meaning> meanings = new ArrayList<>();
        final List<Integer> definedAt = new ArrayList<>();
        /** From the one that was used longest ago to the one that was used last. */
        final Map<Integer, Answer> remembered = new LinkedHashMap<>();
        int revision = 0;
        int bound = 10;
        int worked = 0;
        int kept = 0;
        int taken = 0;
        int forgotten = 0;
        int same = 0;

        World twin() {
            World twin = new World();
            twin.meanings.addAll(meanings);
            twin.definedAt.addAll(definedAt);
            remembered.forEach((cell, answer) -> twin.remembered.put(cell, answer.twin()));
            twin.revision = revision;
            twin.bound = bound;
            twin.worked = worked;
            twin.kept = kept;
            twin.taken = taken;
            twin.forgotten = forgotten;
            twin.same = same;
            return twin;
        }
    }

    private World world = new World();
    private final Deque<World> history = new ArrayDeque<>();
    private String text = "";

    Model() {
        for (int i = 0; i < 10; i++) {
            world.meanings.add(new Meaning(-1, List.of(0)));
            world.definedAt.add(0);
        }
    }

    private static boolean outside(int number, int least, int greatest) {
        return number < least || number > greatest;
    }

    private void change() {
        history.addLast(world.twin());
        if (history.size() == 5) {
            history.removeFirst();
        }
    }

    private void setMeaning(int cell, Meaning meaning) {
        if (!world.meanings.get(cell).equals(meaning)) {
            world.revision++;
            world.meanings.set(cell, meaning);
            world.definedAt.set(cell, world.revision);
            world.remembered.remove(cell);
        }
    }

    int define(int cell, int value) {
        if (outside(cell, 0, 9) || outside(value, -99999, 99999)) {
            return INVALID;
        }
        change();
        setMeaning(cell, new Meaning(-1, List.of(value)));
        return world.revision;
    }

    int formula(int cell, int kind, int x, int y, int z) {
        if (outside(cell, 0, 9) || outside(kind, 0, 4) || outside(x, 0, 9) || outside(y, 0, 9)
            || outside(z, 0, kind == 4 ? 9 : 0)) {
            return INVALID;
        }
        change();
        setMeaning(cell, new Meaning(kind, kind == 4 ? List.of(x, y, z) : List.of(x, y)));
        return world.revision;
    }

    int cellOf(int cell, int what) {
        if (outside(cell, 0, 9) || outside(what, 0, 4)) {
            return INVALID;
        }
        Meaning meaning = world.meanings.get(cell);
        if (what == 0) {
            return meaning.kind + 1;
        }
        if (what == 1) {
            return meaning.kind == -1 ? meaning.parts.get(0) : MISSING;
        }
        return meaning.kind == -1 || what - 2 >= meaning.parts.size() ? MISSING : meaning.parts.get(what - 2);
    }

    // ---- asking

    private static Long limited(long number) {
        return Math.abs(number) > 1000000000L ? null : (Long) number;
    }

    private static Long combined(int kind, Long x, Long y) {
        if (x == null || y == null) {
            return null;
        }
        return limited(kind == 0 ? x + y : kind == 1 ? x - y : kind == 2 ? x * y : kind == 3 ? (x > y ? x : y) : y);
    }

    private Long answerNow(int cell) {
        Meaning meaning = world.meanings.get(cell);
        return meaning.kind == -1 ? (Long) (long) meaning.parts.get(0) : world.remembered.get(cell).number;
    }

    private int changedAt(int cell) {
        return world.meanings.get(cell).kind == -1 ? world.definedAt.get(cell) : world.remembered.get(cell).changed;
    }

    private void look(int cell, Set<Integer> open) throws Ring {
        Meaning meaning = world.meanings.get(cell);
        if (meaning.kind == -1) {
            return;
        }
        if (!open.add(cell)) {
            throw new Ring();
        }
        Answer answer = world.remembered.get(cell);
        if (answer != null && answer.seen == world.revision) {
            world.taken++;
        } else if (answer != null && stillHolds(answer, open)) {
            world.kept++;
            answer.seen = world.revision;
        } else {
            work(cell, open);
        }
        open.remove(cell);
        world.remembered.put(cell, world.remembered.remove(cell));
    }

    private boolean stillHolds(Answer answer, Set<Integer> open) throws Ring {
        for (int used : answer.used) {
            look(used, open);
            if (changedAt(used) > answer.seen) {
                return false;
            }
        }
        return true;
    }

    private void work(int cell, Set<Integer> open) throws Ring {
        Meaning meaning = world.meanings.get(cell);
        Answer made = new Answer();
        int x = meaning.parts.get(0);
        look(x, open);
        made.used.add(x);
        Long first = answerNow(x);
        if (meaning.kind < 4 || first != null) {
            int y = meaning.kind < 4 || first > 0 ? meaning.parts.get(1) : meaning.parts.get(2);
            look(y, open);
            made.used.add(y);
            made.number = combined(meaning.kind, first, answerNow(y));
        }
        Answer before = world.remembered.get(cell);
        made.seen = world.revision;
        made.changed = world.revision;
        world.worked++;
        if (before != null && Objects.equals(before.number, made.number)) {
            made.changed = before.changed;
            world.same++;
        }
        world.remembered.put(cell, made);
    }

    int ask(int cell) {
        if (outside(cell, 0, 9)) {
            return INVALID;
        }
        World before = world.twin();
        try {
            look(cell, new HashSet<>());
        } catch (Ring ring) {
            world = before;
            return IMPOSSIBLE;
        }
        Long answer = answerNow(cell);
        while (world.remembered.size() > world.bound) {
            world.remembered.remove(world.remembered.keySet().iterator().next());
            world.forgotten++;
        }
        World after = world;
        world = before;
        change();
        world = after;
        return answer == null ? 2000000000 : answer.intValue();
    }

    int cost(int cell, int what) {
        if (outside(cell, 0, 9) || outside(what, 0, 2)) {
            return INVALID;
        }
        World before = world.twin();
        try {
            look(cell, new HashSet<>());
            return what == 0 ? world.worked - before.worked
                : what == 1 ? world.kept - before.kept : world.taken - before.taken;
        } catch (Ring ring) {
            return IMPOSSIBLE;
        } finally {
            world = before;
        }
    }

    // ---- afresh

    private Long afresh(int cell, List<Integer> way, Set<Integer> met) throws Ring {
        Meaning meaning = world.meanings.get(cell);
        met.add(cell);
        if (meaning.kind == -1) {
            return (long) meaning.parts.get(0);
        }
        if (way.contains(cell)) {
            throw new Ring();
        }
        List<Integer> longer = new ArrayList<>(way);
        longer.add(cell);
        Long x = afresh(meaning.parts.get(0), longer, met);
        if (meaning.kind == 4 && x == null) {
            return null;
        }
        int other = meaning.kind == 4 && x <= 0 ? 2 : 1;
        return combined(meaning.kind, x, afresh(meaning.parts.get(other), longer, met));
    }

    int fresh(int cell) {
        if (outside(cell, 0, 9)) {
            return INVALID;
        }
        try {
            Long answer = afresh(cell, List.of(), new TreeSet<>());
            return answer == null ? LIMIT : answer.intValue();
        } catch (Ring ring) {
            return IMPOSSIBLE;
        }
    }

    int used(int cell) {
        if (outside(cell, 0, 9)) {
            return INVALID;
        }
        Set<Integer> met = new TreeSet<>();
        try {
            afresh(cell, List.of(), met);
        } catch (Ring ring) {
            return IMPOSSIBLE;
        }
        met.remove(cell);
        return met.stream().mapToInt(other -> 1 << other).sum();
    }

    int usedBy(int cell) {
        if (outside(cell, 0, 9)) {
            return INVALID;
        }
        int set = 0;
        for (int other = 0; other < 10; other++) {
            int all = used(other);
            if (all >= 0 && (all >> cell) % 2 == 1) {
                set += 1 << other;
            }
        }
        return set;
    }

    int would(int cell, int value, int asked) {
        if (outside(cell, 0, 9) || outside(value, -99999, 99999) || outside(asked, 0, 9)) {
            return INVALID;
        }
        Meaning before = world.meanings.get(cell);
        world.meanings.set(cell, new Meaning(-1, List.of(value)));
        int answer = fresh(asked);
        world.meanings.set(cell, before);
        return answer;
    }

    // ---- the rest

    int forget(int cell) {
        if (outside(cell, 0, 9)) {
            return INVALID;
        }
        if (!world.remembered.containsKey(cell)) {
            return IMPOSSIBLE;
        }
        change();
        world.remembered.remove(cell);
        world.forgotten++;
        return world.remembered.size();
    }

    int bound(int bound) {
        if (outside(bound, 0, 10)) {
            return INVALID;
        }
        change();
        int before = world.bound;
        world.bound = bound;
        return before;
    }

    int rememberedOf(int cell, int what) {
        if (outside(cell, 0, 9) || outside(what, 0, 6)) {
            return INVALID;
        }
        Answer answer = world.remembered.get(cell);
        if (answer == null) {
            return MISSING;
        }
        switch (what) {
            case 0:
                return answer.number == null ? 2000000000 : answer.number.intValue();
            case 1:
                return answer.changed;
            case 2:
                return answer.seen;
            case 3:
                return answer.used.size();
            case 6:
                return new ArrayList<>(world.remembered.keySet()).indexOf(cell);
            default:
                return what - 4 < answer.used.size() ? answer.used.get(what - 4) : MISSING;
        }
    }

    int which(int what) {
        if (outside(what, 0, 4)) {
            return INVALID;
        }
        int set = 0;
        for (int cell = 0; cell < 10; cell++) {
            Answer answer = world.remembered.get(cell);
            boolean in = what == 0 ? world.meanings.get(cell).kind >= 0
                : what == 1 ? answer != null
                : what == 2 ? answer != null && answer.seen == world.revision
                : what == 3 ? fresh(cell) == IMPOSSIBLE
                : fresh(cell) == LIMIT;
            set += in ? 1 << cell : 0;
        }
        return set;
    }

    int count(int what) {
        if (outside(what, 0, 9)) {
            return INVALID;
        }
        return List.of(world.revision, world.remembered.size(), world.worked, world.kept, world.taken,
            world.forgotten, world.bound, world.same, history.size(), text.length()).get(what);
    }

    int undo() {
        if (history.isEmpty()) {
            return IMPOSSIBLE;
        }
        world = history.removeLast();
        return history.size();
    }

    int type(int character) {
        if (outside(character, 32, 126)) {
            return INVALID;
        }
        if (text.length() == 60) {
            return LIMIT;
        }
        text += (char) character;
        return text.length();
    }

    int clearText() {
        int before = text.length();
        text = "";
        return before;
    }

    /** The whole definitions at the text's beginning. */
    private List<String> definitions() {
        List<String> found = new ArrayList<>();
        Matcher matcher = FORM.matcher(text);
        int from = 0;
        while (matcher.region(from, text.length()).lookingAt()) {
            found.add(matcher.group());
            from = matcher.end();
        }
        return found;
    }

    int fault(int what) {
        if (outside(what, 0, 1)) {
            return INVALID;
        }
        int position = String.join("", definitions()).length();
        if (position == text.length()) {
            return MISSING;
        }
        return what == 0 ? position : breakOf(text.substring(position));
    }

    /** The length of the longest beginning that could go on to a definition. */
    private static int breakOf(String rest) {
        int length = 0;
        while (length < rest.length()) {
            Matcher matcher = FORM.matcher(rest.substring(0, length + 1));
            if (!matcher.matches() && !matcher.hitEnd()) {
                return length;
            }
            length++;
        }
        return length;
    }

    int play() {
        if (fault(0) != MISSING) {
            return IMPOSSIBLE;
        }
        change();
        for (String definition : definitions()) {
            setMeaning(definition.charAt(0) - 'a', meaningOf(definition.substring(2, definition.length() - 1)));
        }
        return world.revision;
    }

    private static Meaning meaningOf(String told) {
        if (!Character.isLetter(told.charAt(0))) {
            return new Meaning(-1, List.of(Integer.parseInt(told)));
        }
        List<Integer> parts = new ArrayList<>();
        for (int i = 0; i < told.length(); i += 2) {
            parts.add(told.charAt(i) - 'a');
        }
        return new Meaning("+-*^?".indexOf(told.charAt(1)), parts);
    }
}
