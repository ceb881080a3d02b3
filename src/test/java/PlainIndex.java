import java.util.ArrayList;
import java.util.Collections;
import java.util.LinkedHashMap;
import java.util.List;
import java.util.Map;
import java.util.NavigableMap;
import java.util.StringJoiner;
import java.util.TreeMap;

/** The document once more, over Java's own maps and lists: RandomRunsTest asks it what is due. */
public final class PlainIndex {
    private static final int NONE = -1000;
    private static final int REFUSED = -9999;

    private final TreeMap<Integer, Integer> pairs = new TreeMap<>();
    private final List<Integer> uses = new ArrayList<>();
    private final List<Map<Integer, Integer>> steps = new ArrayList<>();
    private TreeMap<Integer, Integer> copy = new TreeMap<>();
    private final Integer[] marks = new Integer[3];
    private final int[] told = new int[3];
    private int knocks = 0;
    private Map<Integer, Integer> step = new LinkedHashMap<>();

    private static void illegalIf(boolean isSo) {
        if (isSo) {
            throw new IllegalArgumentException();
        }
    }

    private static void stateIf(boolean isSo) {
        if (isSo) {
            throw new IllegalStateException();
        }
    }

    private static void boundsIf(boolean isSo) {
        if (isSo) {
            throw new IndexOutOfBoundsException();
        }
    }

    private static void value(int value) {
        illegalIf(value < -999 || value > 999);
    }

    private static int orNone(Integer value) {
        return value == null ? NONE : value;
    }

    private void touch(Integer key) {
        uses.remove(key);
        uses.add(key);
    }

    private void let(Integer key, Integer value) {
        if (!value.equals(pairs.get(key))) {
            step.put(key, pairs.get(key));
        }
        pairs.put(key, value);
        touch(key);
    }

    private void go(Integer key) {
        step.put(key, pairs.remove(key));
        uses.remove(key);
    }

    private void end() {
        if (!step.isEmpty()) {
            steps.add(step);
            if (steps.size() > 12) {
                steps.remove(0);
            }
            step = new LinkedHashMap<>();
        }
    }

    private int goAll(Iterable<Integer> keys) {
        int many = 0;
        List<Integer> all = new ArrayList<>();
        keys.forEach(all::add);
        for (Integer key : all) {
            go(key);
            many++;
        }
        end();
        return many;
    }

    private static String join(Iterable<Integer> numbers) {
        StringJoiner line = new StringJoiner(" ");
        numbers.forEach(number -> line.add(number.toString()));
        return line.toString();
    }

    private static String join(Map<Integer, Integer> some, String gap) {
        StringJoiner line = new StringJoiner(gap);
        some.forEach((key, value) -> line.add(key + "=" + value));
        return line.toString();
    }

    private NavigableMap<Integer, Integer> range(int from, int to) {
        illegalIf(from > to);
        return pairs.subMap(from, true, to, true);
    }

    private static Integer near(NavigableMap<Integer, Integer> some, int key, int how) {
        illegalIf(how < 0 || how > 3);
        NavigableMap<Integer, Integer> part =
                how <= 1 ? new TreeMap<>(some).headMap(key, how == 1) : new TreeMap<>(some).tailMap(key, how == 2);
        if (part.isEmpty()) {
            return null;
        }
        return how <= 1 ? part.lastKey() : part.firstKey();
    }

    private static int orThrow(Integer key) {
        stateIf(key == null);
        return key;
    }

    public int put(int key, int value) {
        value(value);
        stateIf(pairs.size() == 24 && !pairs.containsKey(key));
        int before = look(key);
        let(key, value);
        end();
        return before;
    }

    public int putNew(int key, int value) {
        value(value);
        stateIf(pairs.size() == 24 && !pairs.containsKey(key));
        return has(key) ? get(key) : put(key, value);
    }

    public int replace(int key, int value) {
        value(value);
        return has(key) ? put(key, value) : NONE;
    }

    public boolean replaceIf(int key, int old, int value) {
        value(value);
        boolean isSo = has(key) && look(key) == old;
        if (isSo) {
            put(key, value);
        }
        return isSo;
    }

    public int remove(int key) {
        int before = look(key);
        if (has(key)) {
            go(key);
            end();
        }
        return before;
    }

    public boolean removeIf(int key, int value) {
        boolean isSo = has(key) && look(key) == value;
        if (isSo) {
            remove(key);
        }
        return isSo;
    }

    public int clear() {
        return goAll(pairs.keySet());
    }

    public int get(int key) {
        if (has(key)) {
            touch(key);
        }
        return look(key);
    }

    public int getOr(int key, int other) {
        return has(key) ? get(key) : other;
    }

    public int look(int key) {
        return orNone(pairs.get(key));
    }

    public boolean has(int key) {
        return pairs.containsKey(key);
    }

    public boolean hasValue(int value) {
        return pairs.containsValue(value);
    }

    public int size() {
        return pairs.size();
    }

    public int first(boolean isLast) {
        stateIf(pairs.isEmpty());
        return isLast ? pairs.lastKey() : pairs.firstKey();
    }

    public int near(int key, int how) {
        return orThrow(near(pairs, key, how));
    }

    public int nearValue(int key, int how) {
        Integer at = near(pairs, key, how);
        return at == null ? NONE : look(at);
    }

    public int poll(boolean isLast) {
        int key = first(isLast);
        remove(key);
        return key;
    }

    public String keys(boolean isDown) {
        return join(isDown ? pairs.descendingKeySet() : pairs.keySet());
    }

    public String values() {
        return join(pairs.values());
    }

    public String text() {
        return "{" + join(pairs, ", ") + "}";
    }

    public int hash() {
        int sum = 0;
        for (Map.Entry<Integer, Integer> pair : pairs.entrySet()) {
            sum += pair.getKey() ^ pair.getValue();
        }
        return sum;
    }

    public int inRange(int from, int to) {
        return from > to ? REFUSED : range(from, to).size();
    }

    public int rangeEnd(int from, int to, boolean isLast) {
        NavigableMap<Integer, Integer> range = range(from, to);
        stateIf(range.isEmpty());
        return isLast ? range.lastKey() : range.firstKey();
    }

    public int rangeNear(int from, int to, int key, int how) {
        return orThrow(near(range(from, to), key, how));
    }

    public int rangePut(int from, int to, int key, int value) {
        value(value);
        stateIf(pairs.size() == 24 && !pairs.containsKey(key));
        return key < from || key > to ? REFUSED : put(key, value);
    }

    public int rangePoll(int from, int to, boolean isLast) {
        int key = rangeEnd(from, to, isLast);
        remove(key);
        return key;
    }

    public int rangeClear(int from, int to) {
        return from > to ? REFUSED : goAll(range(from, to).keySet());
    }

    public int rangeSum(int from, int to) {
        return range(from, to).values().stream().mapToInt(Integer::intValue).sum();
    }

    public String rangeText(int from, int to) {
        return join(range(from, to), " ");
    }

    public String rangeUse(int from, int to) {
        return join(byUse(from, to));
    }

    private List<Integer> byUse(int from, int to) {
        List<Integer> some = new ArrayList<>(uses);
        some.retainAll(range(from, to).keySet());
        return some;
    }

    public int rangeAge(int from, int to, boolean isLast) {
        List<Integer> some = byUse(from, to);
        stateIf(some.isEmpty());
        return some.get(isLast ? some.size() - 1 : 0);
    }

    public int aged(boolean isLast) {
        stateIf(uses.isEmpty());
        return uses.get(isLast ? uses.size() - 1 : 0);
    }

    public int ageOf(int key) {
        return has(key) ? uses.size() - 1 - uses.indexOf(key) : NONE;
    }

    public int dropAged() {
        int key = aged(false);
        remove(key);
        return key;
    }

    public int keep(int many) {
        illegalIf(many < 0);
        return many >= uses.size() ? 0 : goAll(uses.subList(0, uses.size() - many));
    }

    public String uses() {
        return join(uses);
    }

    public int page(int pager) {
        boundsIf(pager < 0 || pager > 2);
        int before = told[pager];
        told[pager] = 0;
        marks[pager] = null;
        return before;
    }

    private NavigableMap<Integer, Integer> left(int pager) {
        return marks[pager] == null ? pairs : pairs.tailMap(marks[pager], false);
    }

    public String next(int pager, int many) {
        boundsIf(pager < 0 || pager > 2);
        illegalIf(many < 1 || many > 24);
        List<Integer> page = new ArrayList<>(left(pager).keySet());
        page = page.subList(0, Math.min(many, page.size()));
        told[pager] += page.size();
        if (!page.isEmpty()) {
            marks[pager] = Collections.max(page);
        }
        return join(page);
    }

    public int ofPager(int pager, int what) {
        boundsIf(pager < 0 || pager > 2);
        illegalIf(what < 0 || what > 3);
        Integer mark = marks[pager];
        int[] all = {told[pager], left(pager).size(), mark == null ? 0 : 1, mark == null ? 0 : mark};
        return all[what];
    }

    public int undo() {
        if (steps.isEmpty()) {
            return REFUSED;
        }
        Map<Integer, Integer> last = steps.remove(steps.size() - 1);
        List<Integer> keys = new ArrayList<>(last.keySet());
        Collections.reverse(keys);
        for (Integer key : keys) {
            if (last.get(key) == null) {
                pairs.remove(key);
                uses.remove(key);
            } else {
                pairs.put(key, last.get(key));
                touch(key);
            }
        }
        return keys.size();
    }

    public int steps() {
        return steps.size();
    }

    public int forget() {
        int many = steps.size();
        steps.clear();
        return many;
    }

    public int copy() {
        copy = new TreeMap<>(pairs);
        return copy.size();
    }

    public boolean isCopy() {
        return copy.equals(pairs);
    }

    public int apart() {
        TreeMap<Integer, Integer> all = new TreeMap<>(pairs);
        all.putAll(copy);
        all.keySet().removeIf(key -> has(key) && pairs.get(key).equals(copy.get(key)));
        return all.size();
    }

    public int back() {
        for (Integer key : new ArrayList<>(pairs.keySet())) {
            if (!copy.containsKey(key)) {
                go(key);
            }
        }
        for (Integer key : copy.keySet()) {
            if (!copy.get(key).equals(pairs.get(key))) {
                let(key, copy.get(key));
            }
        }
        int many = step.size();
        end();
        return many;
    }

    public int house(int what) {
        illegalIf(what < 0 || what > 4);
        int marked = ofPager(0, 2) + ofPager(1, 2) + ofPager(2, 2);
        int[] all = {pairs.size(), steps.size(), copy.size(), marked, knocks};
        return all[what];
    }

    public int knock() {
        return ++knocks;
    }

    public boolean isSound() {
        return true;
    }

    public long digest() {
        List<Integer> all = new ArrayList<>();
        for (int what = 0; what < 5; what++) {
            all.add(house(what));
        }
        pairs.forEach((key, value) -> Collections.addAll(all, key, value));
        all.addAll(uses);
        for (int at = 0; at < 12; at++) {
            all.add(ofPager(at / 4, at % 4));
        }
        Collections.addAll(all, hash(), text().length(), apart(), 1);
        long d = 7839;
        for (int number : all) {
            d = d * 31 + number;
        }
        return d;
    }
}
