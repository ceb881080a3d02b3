/**
 * One set of pairs in two sequences: by their keys, and by when they were used last; changed and
 * asked through either, in ranges, page by page, and taken back step by step.
 *
 * <p>The words in capitals, and the promise of each method, stand in DOC.md.
 */
public final class Twinindex {
    private static final int MOST_PAIRS = 24;
    private static final int MOST_STEPS = 12;
    // back() changes the most KEYS at once: all PAIRS go, and as many others come.
    private static final int MOST_NOTES = 2 * MOST_PAIRS;
    private static final int MOST_PAGERS = 3;
    private static final int LEAST_VALUE = -999;
    private static final int GREATEST_VALUE = 999;
    private static final int LEAST_KEY = -2147483648;
    private static final int GREATEST_KEY = 2147483647;
    private static final int NONE = -1000;
    private static final int REFUSED = -9999;
    private static final int NOWHERE = -1;
    private static final int HOW_BELOW = 0;
    private static final int HOW_NOT_ABOVE = 1;
    private static final int HOW_NOT_BELOW = 2;
    private static final int HOW_ABOVE = 3;
    private static final int LAST_HOUSE = 4;
    private static final int LAST_OF_PAGER = 3;
    private static final long DIGEST_START = 7839;

    private final Sheet pairs;
    private final Row byUse;
    private final Past past;
    private final Sheet kept;
    private final Pager[] pagers;
    private int knocks;

    // Made once and used again by every call, so that calls make no rows of their own.
    private final Row chosen;
    private final Sheet fresh;

    public Twinindex() {
        pairs = new Sheet();
        byUse = new Row(MOST_PAIRS);
        past = new Past();
        kept = new Sheet();
        pagers = new Pager[MOST_PAGERS];
        for (int pager = 0; pager < MOST_PAGERS; pager++) {
            pagers[pager] = new Pager();
        }
        knocks = 0;
        chosen = new Row(MOST_PAIRS);
        fresh = new Sheet();
    }

    // ---- pairs

    public int put(int key, int value) throws IllegalArgumentException, IllegalStateException {
        checkValue(value);
        checkRoomFor(key);
        int before = pairs.valueOf(key);
        store(key, value);
        past.endStep();
        return before;
    }

    public int putNew(int key, int value) throws IllegalArgumentException, IllegalStateException {
        checkValue(value);
        checkRoomFor(key);
        int before = pairs.valueOf(key);
        store(key, before == NONE ? value : before);
        past.endStep();
        return before;
    }

    public int replace(int key, int value) throws IllegalArgumentException {
        checkValue(value);
        int before = pairs.valueOf(key);
        if (before != NONE) {
            store(key, value);
            past.endStep();
        }
        return before;
    }

    public boolean replaceIf(int key, int old, int value) throws IllegalArgumentException {
        checkValue(value);
        if (!isThereWith(key, old)) {
            return false;
        }
        store(key, value);
        past.endStep();
        return true;
    }

    public int remove(int key) {
        int before = pairs.valueOf(key);
        if (before != NONE) {
            drop(key);
            past.endStep();
        }
        return before;
    }

    public boolean removeIf(int key, int value) {
        if (!isThereWith(key, value)) {
            return false;
        }
        drop(key);
        past.endStep();
        return true;
    }

    public int clear() {
        return rangeClear(LEAST_KEY, GREATEST_KEY);
    }

    public int get(int key) {
        return getOr(key, NONE);
    }

    public int getOr(int key, int other) {
        int value = pairs.valueOf(key);
        if (value == NONE) {
            return other;
        }
        use(key);
        return value;
    }

    public int look(int key) {
        return pairs.valueOf(key);
    }

    public boolean has(int key) {
        return pairs.holds(key);
    }

    public boolean hasValue(int value) {
        return pairs.holdsValue(value);
    }

    public int size() {
        return pairs.count();
    }

    // ---- by keys

    public int first(boolean isLast) throws IllegalStateException {
        return rangeEnd(LEAST_KEY, GREATEST_KEY, isLast);
    }

    public int near(int key, int how) throws IllegalArgumentException, IllegalStateException {
        return rangeNear(LEAST_KEY, GREATEST_KEY, key, how);
    }

    public int nearValue(int key, int how) throws IllegalArgumentException {
        checkHow(how);
        int place = pairs.placeNear(LEAST_KEY, GREATEST_KEY, key, how);
        return place == NOWHERE ? NONE : pairs.valueAt(place);
    }

    public int poll(boolean isLast) throws IllegalStateException {
        return rangePoll(LEAST_KEY, GREATEST_KEY, isLast);
    }

    public String keys(boolean isDown) {
        int many = pairs.count();
        chosen.empty();
        for (int told = 0; told < many; told++) {
            chosen.add(pairs.keyAt(isDown ? many - 1 - told : told));
        }
        return chosen.joined();
    }

    public String values() {
        int many = pairs.count();
        chosen.empty();
        for (int place = 0; place < many; place++) {
            chosen.add(pairs.valueAt(place));
        }
        return chosen.joined();
    }

    public String text() {
        StringBuilder line = new StringBuilder();
        line.append('{');
        joinPairs(line, 0, pairs.count(), ", ");
        line.append('}');
        return line.toString();
    }

    public int hash() {
        return pairs.mixedSum();
    }

    // ---- ranges

    public int inRange(int from, int to) {
        return from > to ? REFUSED : pairs.countIn(from, to);
    }

    public int rangeEnd(int from, int to, boolean isLast)
            throws IllegalArgumentException, IllegalStateException {
        checkRange(from, to);
        if (pairs.countIn(from, to) == 0) {
            throw new IllegalStateException("there is no such key");
        }
        return pairs.keyAt(isLast ? pairs.countNotAbove(to) - 1 : pairs.countBelow(from));
    }

    public int rangeNear(int from, int to, int key, int how)
            throws IllegalArgumentException, IllegalStateException {
        checkRange(from, to);
        checkHow(how);
        int place = pairs.placeNear(from, to, key, how);
        if (place == NOWHERE) {
            throw new IllegalStateException("there is no such key");
        }
        return pairs.keyAt(place);
    }

    public int rangePut(int from, int to, int key, int value)
            throws IllegalArgumentException, IllegalStateException {
        checkValue(value);
        checkRoomFor(key);
        // Where from is above to, no KEY lies between them: this refuses that, too.
        return isBetween(from, to, key) ? put(key, value) : REFUSED;
    }

    public int rangePoll(int from, int to, boolean isLast)
            throws IllegalArgumentException, IllegalStateException {
        int key = rangeEnd(from, to, isLast);
        drop(key);
        past.endStep();
        return key;
    }

    public int rangeClear(int from, int to) {
        if (from > to) {
            return REFUSED;
        }
        int end = pairs.countNotAbove(to);
        chosen.empty();
        for (int place = pairs.countBelow(from); place < end; place++) {
            chosen.add(pairs.keyAt(place));
        }
        int gone = dropChosen();
        past.endStep();
        return gone;
    }

    public int rangeSum(int from, int to) throws IllegalArgumentException {
        checkRange(from, to);
        int sum = 0;
        int end = pairs.countNotAbove(to);
        for (int place = pairs.countBelow(from); place < end; place++) {
            sum += pairs.valueAt(place);
        }
        return sum;
    }

    public String rangeText(int from, int to) throws IllegalArgumentException {
        checkRange(from, to);
        StringBuilder line = new StringBuilder();
        joinPairs(line, pairs.countBelow(from), pairs.countNotAbove(to), " ");
        return line.toString();
    }

    public String rangeUse(int from, int to) throws IllegalArgumentException {
        checkRange(from, to);
        chooseByUse(from, to);
        return chosen.joined();
    }

    public int rangeAge(int from, int to, boolean isLast)
            throws IllegalArgumentException, IllegalStateException {
        checkRange(from, to);
        chooseByUse(from, to);
        if (chosen.count() == 0) {
            throw new IllegalStateException("there is no such key");
        }
        return chosen.at(isLast ? chosen.count() - 1 : 0);
    }

    // ---- by use

    public int aged(boolean isLast) throws IllegalStateException {
        return rangeAge(LEAST_KEY, GREATEST_KEY, isLast);
    }

    public int ageOf(int key) {
        int place = byUse.placeOf(key);
        return place == NOWHERE ? NONE : byUse.count() - 1 - place;
    }

    public int dropAged() throws IllegalStateException {
        int key = aged(false);
        drop(key);
        past.endStep();
        return key;
    }

    public int keep(int many) throws IllegalArgumentException {
        if (many < 0) {
            throw new IllegalArgumentException("many is below 0");
        }
        int surplus = byUse.count() - many;
        chosen.empty();
        for (int place = 0; place < surplus; place++) {
            chosen.add(byUse.at(place));
        }
        int gone = dropChosen();
        past.endStep();
        return gone;
    }

    public String uses() {
        return byUse.joined();
    }

    // ---- pagers

    public int page(int pager) throws IndexOutOfBoundsException {
        return pagerOf(pager).begin();
    }

    public String next(int pager, int many)
            throws IndexOutOfBoundsException, IllegalArgumentException {
        Pager reader = pagerOf(pager);
        if (many < 1 || many > MOST_PAIRS) {
            throw new IllegalArgumentException("many is not 1 to 24");
        }
        int start = reader.startIn(pairs);
        int end = Math.min(start + many, pairs.count());
        chosen.empty();
        for (int place = start; place < end; place++) {
            chosen.add(pairs.keyAt(place));
            reader.tell(pairs.keyAt(place));
        }
        return chosen.joined();
    }

    public int ofPager(int pager, int what)
            throws IndexOutOfBoundsException, IllegalArgumentException {
        Pager reader = pagerOf(pager);
        switch (what) {
            case 0:
                return reader.told;
            case 1:
                return pairs.count() - reader.startIn(pairs);
            case 2:
                return reader.isMarked ? 1 : 0;
            case 3:
                return reader.mark;
            default:
                throw new IllegalArgumentException("what is not 0 to 3");
        }
    }

    // ---- steps, copies

    public int undo() {
        if (past.count() == 0) {
            return REFUSED;
        }
        int many = past.lastLength();
        for (int note = 0; note < many; note++) {
            takeBack(past.lastKey(), past.lastValue());
            past.dropLastNote();
        }
        past.dropLastStep();
        return many;
    }

    public int steps() {
        return past.count();
    }

    public int forget() {
        int many = past.count();
        past.empty();
        return many;
    }

    public int copy() {
        kept.become(pairs);
        return kept.count();
    }

    public boolean isCopy() {
        return apart() == 0;
    }

    public int apart() {
        return pairs.differencesFrom(kept);
    }

    public int back() {
        chosen.empty();
        int many = pairs.count();
        for (int place = 0; place < many; place++) {
            if (!kept.holds(pairs.keyAt(place))) {
                chosen.add(pairs.keyAt(place));
            }
        }
        int changed = dropChosen() + storeKept();
        past.endStep();
        return changed;
    }

    // ---- the whole

    public int house(int what) throws IllegalArgumentException {
        switch (what) {
            case 0:
                return pairs.count();
            case 1:
                return past.count();
            case 2:
                return kept.count();
            case 3:
                return markedPagers();
            case 4:
                return knocks;
            default:
                throw new IllegalArgumentException("what is not 0 to 4");
        }
    }

    public int knock() {
        knocks++;
        return knocks;
    }

    public boolean isSound() {
        return areSequencesAlike()
                && areNeighboursRight()
                && areHalvesWhole()
                && isTurnedAlike()
                && isFreshCopyAlike();
    }

    public long digest() {
        long sum = DIGEST_START;
        for (int what = 0; what <= LAST_HOUSE; what++) {
            sum = stirred(sum, house(what));
        }
        sum = stirredPairs(sum);
        sum = stirredPagers(sum);
        sum = stirred(sum, hash());
        sum = stirred(sum, text().length());
        sum = stirred(sum, apart());
        return stirred(sum, isSound() ? 1 : 0);
    }

    // ---- what calls are refused for

    private static void checkValue(int value) throws IllegalArgumentException {
        if (value < LEAST_VALUE || value > GREATEST_VALUE) {
            throw new IllegalArgumentException("value is not -999 to 999");
        }
    }

    private void checkRoomFor(int key) throws IllegalStateException {
        if (pairs.count() >= MOST_PAIRS && !pairs.holds(key)) {
            throw new IllegalStateException("there are 24 pairs, and none with that key");
        }
    }

    private static void checkHow(int how) throws IllegalArgumentException {
        if (how < HOW_BELOW || how > HOW_ABOVE) {
            throw new IllegalArgumentException("how is not 0 to 3");
        }
    }

    private static void checkRange(int from, int to) throws IllegalArgumentException {
        if (from > to) {
            throw new IllegalArgumentException("from is above to");
        }
    }

    private Pager pagerOf(int pager) throws IndexOutOfBoundsException {
        if (pager < 0 || pager >= pagers.length) {
            throw new IndexOutOfBoundsException("pager is not 0 to 2");
        }
        return pagers[pager];
    }

    // ---- changes: those that are noted for undo(), then those that are not

    private void store(int key, int value) {
        int before = pairs.valueOf(key);
        if (before != value) {
            past.note(key, before);
        }
        assign(key, value);
    }

    private void drop(int key) {
        past.note(key, pairs.valueOf(key));
        erase(key);
    }

    private int dropChosen() {
        int many = chosen.count();
        for (int place = 0; place < many; place++) {
            drop(chosen.at(place));
        }
        return many;
    }

    private int storeKept() {
        int changed = 0;
        int many = kept.count();
        for (int place = 0; place < many; place++) {
            int key = kept.keyAt(place);
            if (!isThereWith(key, kept.valueAt(place))) {
                store(key, kept.valueAt(place));
                changed++;
            }
        }
        return changed;
    }

    private void takeBack(int key, int before) {
        if (before == NONE) {
            erase(key);
        } else {
            assign(key, before);
        }
    }

    private void assign(int key, int value) {
        pairs.assign(key, value);
        use(key);
    }

    private void erase(int key) {
        pairs.erase(key);
        byUse.delete(byUse.placeOf(key));
    }

    private void use(int key) {
        byUse.delete(byUse.placeOf(key));
        byUse.add(key);
    }

    // ---- questions that several methods ask

    private boolean isThereWith(int key, int value) {
        return pairs.holds(key) && pairs.valueOf(key) == value;
    }

    private static boolean isBetween(int least, int greatest, int number) {
        return least <= number && number <= greatest;
    }

    private void chooseByUse(int from, int to) {
        chosen.empty();
        int many = byUse.count();
        for (int place = 0; place < many; place++) {
            if (isBetween(from, to, byUse.at(place))) {
                chosen.add(byUse.at(place));
            }
        }
    }

    private void joinPairs(StringBuilder line, int start, int end, String gap) {
        for (int place = start; place < end; place++) {
            if (place > start) {
                line.append(gap);
            }
            line.append(pairs.keyAt(place));
            line.append('=');
            line.append(pairs.valueAt(place));
        }
    }

    private int markedPagers() {
        int marked = 0;
        for (Pager pager : pagers) {
            marked += pager.isMarked ? 1 : 0;
        }
        return marked;
    }

    // ---- the parts of isSound()

    private boolean areSequencesAlike() {
        int many = pairs.count();
        if (byUse.count() != many) {
            return false;
        }
        for (int place = 0; place < many; place++) {
            if (byUse.placeOf(pairs.keyAt(place)) == NOWHERE || !pairs.holds(byUse.at(place))) {
                return false;
            }
        }
        return true;
    }

    private boolean areNeighboursRight() {
        int many = pairs.count();
        for (int place = 0; place < many; place++) {
            int key = pairs.keyAt(place);
            int before = place > 0 ? place - 1 : NOWHERE;
            int after = place + 1 < many ? place + 1 : NOWHERE;
            if (pairs.placeNear(LEAST_KEY, GREATEST_KEY, key, HOW_BELOW) != before
                    || pairs.placeNear(LEAST_KEY, GREATEST_KEY, key, HOW_NOT_ABOVE) != place
                    || pairs.placeNear(LEAST_KEY, GREATEST_KEY, key, HOW_NOT_BELOW) != place
                    || pairs.placeNear(LEAST_KEY, GREATEST_KEY, key, HOW_ABOVE) != after) {
                return false;
            }
        }
        return true;
    }

    private boolean areHalvesWhole() {
        int many = pairs.count();
        for (int place = 0; place < many; place++) {
            int key = pairs.keyAt(place);
            // Nothing is below the least int, and one less would wrap around.
            int below = key == LEAST_KEY ? 0 : pairs.countIn(LEAST_KEY, key - 1);
            if (below + pairs.countIn(key, GREATEST_KEY) != many) {
                return false;
            }
        }
        return true;
    }

    private boolean isTurnedAlike() {
        int place = pairs.placeNear(LEAST_KEY, GREATEST_KEY, GREATEST_KEY, HOW_NOT_ABOVE);
        for (int due = pairs.count() - 1; due >= 0; due--) {
            if (place != due) {
                return false;
            }
            place = pairs.placeNear(LEAST_KEY, GREATEST_KEY, pairs.keyAt(place), HOW_BELOW);
        }
        return place == NOWHERE;
    }

    private boolean isFreshCopyAlike() {
        fresh.become(pairs);
        return fresh.differencesFrom(pairs) == 0
                && fresh.mixedSum() == pairs.mixedSum()
                && fresh.mixedSum() == mixedSumByUse();
    }

    private int mixedSumByUse() {
        int sum = 0;
        int many = byUse.count();
        for (int place = 0; place < many; place++) {
            int key = byUse.at(place);
            sum += key ^ pairs.valueOf(key);
        }
        return sum;
    }

    // ---- the parts of digest()

    private static long stirred(long sum, long number) {
        return sum * 31 + number;
    }

    private long stirredPairs(long start) {
        long sum = start;
        for (int place = 0; place < pairs.count(); place++) {
            sum = stirred(sum, pairs.keyAt(place));
            sum = stirred(sum, pairs.valueAt(place));
        }
        for (int place = 0; place < byUse.count(); place++) {
            sum = stirred(sum, byUse.at(place));
        }
        return sum;
    }

    private long stirredPagers(long start) {
        long sum = start;
        for (int pager = 0; pager < MOST_PAGERS; pager++) {
            for (int what = 0; what <= LAST_OF_PAGER; what++) {
                sum = stirred(sum, ofPager(pager, what));
            }
        }
        return sum;
    }

    /**
     * Numbers in a sequence, at most as many as it has room for. It looks at each place before it uses
     * it: what does not lie in it reads 0, and is neither changed nor deleted.
     */
    private static final class Row {
        private final int[] cells;
        private int filled;

        Row(int room) {
            cells = new int[room > 0 ? room : 0];
            filled = 0;
        }

        int count() {
            return filled;
        }

        int at(int place) {
            return place >= 0 && place < filled ? cells[place] : 0;
        }

        int placeOf(int number) {
            for (int place = 0; place < filled; place++) {
                if (cells[place] == number) {
                    return place;
                }
            }
            return NOWHERE;
        }

        void change(int place, int number) {
            if (place >= 0 && place < filled) {
                cells[place] = number;
            }
        }

        void add(int number) {
            insert(filled, number);
        }

        void insert(int place, int number) {
            if (place < 0 || place > filled || filled >= cells.length) {
                return;
            }
            for (int hole = filled; hole > place; hole--) {
                cells[hole] = cells[hole - 1];
            }
            cells[place] = number;
            filled++;
        }

        void delete(int place) {
            if (place >= 0 && place < filled) {
                System.arraycopy(cells, place + 1, cells, place, filled - 1 - place);
                filled--;
            }
        }

        void deleteFirst(int many) {
            if (many > 0 && many <= filled) {
                System.arraycopy(cells, many, cells, 0, filled - many);
                filled -= many;
            }
        }

        void empty() {
            filled = 0;
        }

        void become(Row other) {
            if (other.filled <= cells.length) {
                System.arraycopy(other.cells, 0, cells, 0, other.filled);
                filled = other.filled;
            }
        }

        String joined() {
            StringBuilder line = new StringBuilder();
            for (int place = 0; place < filled; place++) {
                if (place > 0) {
                    line.append(' ');
                }
                line.append(cells[place]);
            }
            return line.toString();
        }
    }

    /** PAIRS by rising KEYS: a KEY and its VALUE stand at the same place of two rows. */
    private static final class Sheet {
        private final Row sheetKeys;
        private final Row sheetValues;

        Sheet() {
            sheetKeys = new Row(MOST_PAIRS);
            sheetValues = new Row(MOST_PAIRS);
        }

        int count() {
            return sheetKeys.count();
        }

        int keyAt(int place) {
            return sheetKeys.at(place);
        }

        int valueAt(int place) {
            return sheetValues.at(place);
        }

        boolean holds(int key) {
            return sheetKeys.placeOf(key) != NOWHERE;
        }

        boolean holdsValue(int value) {
            return sheetValues.placeOf(value) != NOWHERE;
        }

        int valueOf(int key) {
            int place = sheetKeys.placeOf(key);
            return place == NOWHERE ? NONE : valueAt(place);
        }

        /** How many KEYS are below it; it stands at that place, or would come there. */
        int countBelow(int key) {
            int many = sheetKeys.count();
            for (int place = 0; place < many; place++) {
                if (sheetKeys.at(place) >= key) {
                    return place;
                }
            }
            return many;
        }

        int countNotAbove(int key) {
            return holds(key) ? countBelow(key) + 1 : countBelow(key);
        }

        int countIn(int from, int to) {
            return countNotAbove(to) - countBelow(from);
        }

        /** The place of the KEY that near() tells, of those from "from" to "to"; NOWHERE without. */
        int placeNear(int from, int to, int key, int how) {
            int start = countBelow(from);
            int last = countNotAbove(to) - 1;
            int place;
            switch (how) {
                case HOW_BELOW:
                    place = Math.min(countBelow(key) - 1, last);
                    break;
                case HOW_NOT_ABOVE:
                    place = Math.min(countNotAbove(key) - 1, last);
                    break;
                case HOW_NOT_BELOW:
                    place = Math.max(countBelow(key), start);
                    break;
                default:
                    place = Math.max(countNotAbove(key), start);
                    break;
            }
            return isBetween(start, last, place) ? place : NOWHERE;
        }

        void assign(int key, int value) {
            int place = countBelow(key);
            if (holds(key)) {
                sheetValues.change(place, value);
            } else {
                sheetKeys.insert(place, key);
                sheetValues.insert(place, value);
            }
        }

        void erase(int key) {
            int place = sheetKeys.placeOf(key);
            sheetKeys.delete(place);
            sheetValues.delete(place);
        }

        void become(Sheet other) {
            sheetKeys.become(other.sheetKeys);
            sheetValues.become(other.sheetValues);
        }

        int differencesFrom(Sheet other) {
            int differences = 0;
            for (int place = 0; place < count(); place++) {
                if (other.valueOf(keyAt(place)) != valueAt(place)) {
                    differences++;
                }
            }
            for (int place = 0; place < other.count(); place++) {
                if (!holds(other.keyAt(place))) {
                    differences++;
                }
            }
            return differences;
        }

        int mixedSum() {
            int sum = 0;
            for (int place = 0; place < count(); place++) {
                sum += keyAt(place) ^ valueAt(place);
            }
            return sum;
        }
    }

    /**
     * The STEPS that are kept: the KEYS that they changed, in the sequence in which it was done, each
     * with the VALUE ahead of it (NONE if it was not there), and how many KEYS each STEP has. Behind
     * them stand the notes of the call that is being done, till it ends.
     */
    private static final class Past {
        private final Row noteKeys;
        private final Row noteValues;
        private final Row stepLengths;
        private int openNotes;

        Past() {
            noteKeys = new Row((MOST_STEPS + 1) * MOST_NOTES);
            noteValues = new Row((MOST_STEPS + 1) * MOST_NOTES);
            stepLengths = new Row(MOST_STEPS);
            openNotes = 0;
        }

        int count() {
            return stepLengths.count();
        }

        void note(int key, int before) {
            noteKeys.add(key);
            noteValues.add(before);
            openNotes++;
        }

        void endStep() {
            if (openNotes == 0) {
                return;
            }
            if (stepLengths.count() >= MOST_STEPS) {
                dropFirstStep();
            }
            stepLengths.add(openNotes);
            openNotes = 0;
        }

        int lastLength() {
            return stepLengths.at(stepLengths.count() - 1);
        }

        int lastKey() {
            return noteKeys.at(noteKeys.count() - 1);
        }

        int lastValue() {
            return noteValues.at(noteValues.count() - 1);
        }

        void dropLastNote() {
            noteKeys.delete(noteKeys.count() - 1);
            noteValues.delete(noteValues.count() - 1);
        }

        void dropLastStep() {
            stepLengths.delete(stepLengths.count() - 1);
        }

        void empty() {
            noteKeys.empty();
            noteValues.empty();
            stepLengths.empty();
        }

        private void dropFirstStep() {
            noteKeys.deleteFirst(stepLengths.at(0));
            noteValues.deleteFirst(stepLengths.at(0));
            stepLengths.deleteFirst(1);
        }
    }

    /** A PAGER: its MARK, which is 0 while it has none, and how many KEYS it told since it began. */
    private static final class Pager {
        private boolean isMarked;
        private int mark;
        private int told;

        int begin() {
            int before = told;
            isMarked = false;
            mark = 0;
            told = 0;
            return before;
        }

        void tell(int key) {
            isMarked = true;
            mark = key;
            told++;
        }

        /** The place of the first KEY that is left for it; behind the last place if none is. */
        int startIn(Sheet pairs) {
            return isMarked ? pairs.countNotAbove(mark) : 0;
        }
    }
}
