/**
 * An editor buffer in which any edits can be taken back at a price. Sets of edits are ints in which
 * bit e stands for edit e.
 */
public final class PricedUndo {
    public static final int INVALID_ARGUMENT = -1;
    public static final int ILLEGAL_STATE = -2;
    public static final int CAPACITY_EXCEEDED = -3;
    public static final int NONE = -9;

    private static final int MOST_CHARACTERS = 160;
    private static final int MOST_VISIBLE = 60;
    private static final int MOST_EDITS = 16;
    private static final int MOST_INSERTED = 8;
    private static final int MOST_IN_CLIP = 60;
    private static final int MOST_IN_SCRIPT = 80;
    private static final int MOST_ACTIVE_FOR_GOALS = 12;
    private static final int SLOTS = 2;
    private static final int FIRST_CODE = 32;
    private static final int LAST_CODE = 126;
    private static final int LAST_SCRIPT_CODE = 255;
    private static final int HIGHEST_RATE = 9;
    private static final int DISTANCE_STEP = 4;
    private static final int SCRIPT_ERROR = -10;
    /** What run() takes for the characters that were there from the beginning. */
    private static final int NOBODY = -1;

    private static final int GOAL_LENGTH = 0;
    private static final int GOAL_WITHOUT = 1;
    private static final int GOAL_BEGINS = 2;
    private static final int GOAL_OLD_EDITS_GONE = 3;

    private final Row clip = new Row(MOST_IN_CLIP);
    private final Script script = new Script();
    private final Buffer buffer = new Buffer();
    private final Search search = new Search();
    /** A slot is null until something is saved there. */
    private final Buffer[] slots = new Buffer[SLOTS];
    private int ageRate = 1;
    private int distanceRate = 1;

    public PricedUndo() {
    }

    // ---- clip and buffer

    public int appendCharacter(int character) {
        if (character < FIRST_CODE || character > LAST_CODE) {
            return INVALID_ARGUMENT;
        }
        return clip.add(character) ? clip.length : CAPACITY_EXCEEDED;
    }

    public int clearClip() {
        return clip.drop();
    }

    public int begin() {
        buffer.startWith(clip);
        clip.drop();
        return buffer.length;
    }

    public int insert(int gap) {
        int answer = buffer.addInsertion(gap, clip, 0, clip.length);
        if (answer >= 0) {
            clip.drop();
        }
        return answer;
    }

    public int erase(int from, int to) {
        return buffer.addErasure(from, to);
    }

    public int setCursor(int cursor) {
        if (cursor < 0 || cursor > buffer.length) {
            return INVALID_ARGUMENT;
        }
        int previous = buffer.cursor;
        buffer.cursor = cursor;
        return previous;
    }

    public int setPrices(int a, int b) {
        if (a < 0 || a > HIGHEST_RATE || b < 0 || b > HIGHEST_RATE) {
            return INVALID_ARGUMENT;
        }
        int changed = a != ageRate || b != distanceRate ? 1 : 0;
        ageRate = a;
        distanceRate = b;
        return changed;
    }

    public int character(int place) {
        if (place < 0) {
            return INVALID_ARGUMENT;
        }
        return buffer.hasPlace(place) ? buffer.codeAt(place) : NONE;
    }

    public int author(int place) {
        if (!buffer.hasPlace(place)) {
            return INVALID_ARGUMENT;
        }
        int owner = buffer.ownerAt(place);
        return owner == 0 ? NONE : numberOf(owner);
    }

    public int count(int what) {
        switch (what) {
            case 0:
                return buffer.length;
            case 1:
                return buffer.total;
            case 2:
                return buffer.edits;
            case 3:
                return Integer.bitCount(buffer.active);
            case 4:
                return buffer.cursor;
            case 5:
                return clip.length;
            case 6:
                return buffer.commutingPairs();
            default:
                return INVALID_ARGUMENT;
        }
    }

    // ---- edits

    public int edit(int edit, int what) {
        if (!buffer.hasEdit(edit)) {
            return INVALID_ARGUMENT;
        }
        switch (what) {
            case 0:
                return has(buffer.erasures, edit) ? 1 : 0;
            case 1:
                return has(buffer.active, edit) ? 1 : 0;
            case 2:
                return buffer.sizeOf(edit);
            case 3:
                return buffer.placeOf(edit);
            case 4:
                return has(buffer.active, edit) ? buffer.priceOf(edit, ageRate, distanceRate) : NONE;
            case 5:
                return buffer.basesOf(edit);
            case 6:
                return buffer.dependentsOf(single(edit));
            default:
                return INVALID_ARGUMENT;
        }
    }

    public int commute(int first, int second) {
        if (!buffer.hasEdit(first) || !buffer.hasEdit(second) || first == second) {
            return INVALID_ARGUMENT;
        }
        return buffer.areFree(first, second) ? 1 : 0;
    }

    public int closure(int edit) {
        if (!buffer.hasEdit(edit)) {
            return INVALID_ARGUMENT;
        }
        if (!has(buffer.active, edit)) {
            return ILLEGAL_STATE;
        }
        return buffer.withActiveDependents(single(edit));
    }

    public int price(int set) {
        int refusal = refusalToTakeBack(set);
        return refusal < 0 ? refusal : buffer.priceOfSet(set, ageRate, distanceRate);
    }

    public int takeBack(int set) {
        if (set == 0) {
            return INVALID_ARGUMENT;
        }
        int refusal = refusalToTakeBack(set);
        return refusal < 0 ? refusal : buffer.switchTo(buffer.active & ~set);
    }

    public int bringBack(int set) {
        if (set == 0 || !buffer.hasEdits(set)) {
            return INVALID_ARGUMENT;
        }
        if (!buffer.canBringBack(set)) {
            return ILLEGAL_STATE;
        }
        return buffer.switchTo(buffer.active | set);
    }

    public int carried(int set, int place) {
        if (!buffer.hasPlace(place)) {
            return INVALID_ARGUMENT;
        }
        int refusal = refusalToTakeBack(set);
        return refusal < 0 ? refusal : buffer.placeAfter(place, buffer.active & ~set);
    }

    public int loose() {
        return buffer.looseEdits();
    }

    public int opening(int edit) {
        if (!buffer.hasEdit(edit)) {
            return INVALID_ARGUMENT;
        }
        if (has(buffer.active, edit)) {
            return ILLEGAL_STATE;
        }
        return (single(edit) | buffer.basesOf(edit)) & ~buffer.active;
    }

    public int run(int author, int part) {
        if (author != NOBODY && !buffer.hasEdit(author) || part < 0 || part > 1) {
            return INVALID_ARGUMENT;
        }
        int owner = author == NOBODY ? 0 : single(author);
        int first = buffer.longestStretch(owner);
        int size = buffer.stretchFrom(first, owner);
        if (part == 0) {
            return size;
        }
        return size == 0 ? NONE : first;
    }

    // ---- scripts

    public int appendScript(int character) {
        if (character < 0 || character > LAST_SCRIPT_CODE) {
            return INVALID_ARGUMENT;
        }
        return script.signs.add(character) ? script.signs.length : CAPACITY_EXCEEDED;
    }

    public int clearScript() {
        return script.signs.drop();
    }

    public int runScript() {
        int error = script.firstError();
        if (error >= 0) {
            return SCRIPT_ERROR - error;
        }
        int done = 0;
        script.rewind();
        for (int i = 0; i < MOST_IN_SCRIPT && script.next() == Script.COMMAND; i++) {
            if (carryOutCommand() >= 0) {
                done++;
            }
        }
        script.signs.drop();
        return done;
    }

    // ---- goals

    public int cheapest(int kind, int value) {
        int refusal = seekCheapest(kind, value);
        return refusal < 0 ? refusal : search.bestSet;
    }

    public int cheapestPrice(int kind, int value) {
        int refusal = seekCheapest(kind, value);
        return refusal < 0 ? refusal : search.bestPrice;
    }

    public int clearing(int from, int to) {
        if (!buffer.hasStretch(from, to)) {
            return INVALID_ARGUMENT;
        }
        return buffer.withActiveDependents(buffer.editsWithin(from, to));
    }

    // ---- snapshots

    public int save(int slot) {
        if (!isSlot(slot)) {
            return INVALID_ARGUMENT;
        }
        Buffer saved = slots[slot];
        if (saved == null) {
            saved = new Buffer();
            slots[slot] = saved;
        }
        saved.copyFrom(buffer);
        return buffer.length;
    }

    public int restore(int slot) {
        if (!isSlot(slot)) {
            return INVALID_ARGUMENT;
        }
        Buffer saved = slots[slot];
        if (saved == null) {
            return ILLEGAL_STATE;
        }
        buffer.copyFrom(saved);
        return buffer.length;
    }

    public int difference(int slot) {
        if (!isSlot(slot)) {
            return INVALID_ARGUMENT;
        }
        Buffer saved = slots[slot];
        return saved == null ? ILLEGAL_STATE : buffer.differencesFrom(saved);
    }

    // ---- helpers

    private static boolean isSlot(int slot) {
        return slot >= 0 && slot < SLOTS;
    }

    private static int single(int edit) {
        return 1 << edit;
    }

    /** Answers the number of the edit in a set of one: as many bits lie below its bit. */
    private static int numberOf(int set) {
        return Integer.bitCount(set - 1);
    }

    private static boolean has(int set, int edit) {
        return (set & 1 << edit) != 0;
    }

    /** Answers 0 if the set can be taken back, or the error code that is due; the empty set can. */
    private int refusalToTakeBack(int set) {
        if (!buffer.hasEdits(set)) {
            return INVALID_ARGUMENT;
        }
        return buffer.canTakeBack(set) ? 0 : ILLEGAL_STATE;
    }

    /**
     * Carries out the command that the script has just read; a negative answer says it was not possible.
     * An error code of closure() or opening() is negative and so is refused as a set.
     */
    private int carryOutCommand() {
        switch (script.sign) {
            case '+':
                return buffer.addInsertion(script.first, script.signs, script.lettersAt, script.letters);
            case '-':
                return erase(script.first, script.second);
            case '<':
                return takeBack(closure(script.first));
            case '>':
                return bringBack(opening(script.first));
            case '@':
                return setCursor(script.first);
            default:
                return INVALID_ARGUMENT;
        }
    }

    /** Answers 0 if the search has a best set then, or the code that is due. */
    private int seekCheapest(int kind, int value) {
        if (kind < GOAL_LENGTH || kind > GOAL_OLD_EDITS_GONE || value < 0 || value > LAST_CODE) {
            return INVALID_ARGUMENT;
        }
        if (Integer.bitCount(buffer.active) > MOST_ACTIVE_FOR_GOALS) {
            return ILLEGAL_STATE;
        }
        search.setGoal(kind, value);
        search.readState(buffer, ageRate, distanceRate);
        return search.findBest(buffer) ? 0 : NONE;
    }

    /** A row of character codes that is built one at a time. */
    private static final class Row {
        private final int[] codes;
        private int length;

        Row(int most) {
            codes = new int[Math.max(most, 0)];
        }

        boolean add(int code) {
            if (length >= codes.length) {
                return false;
            }
            codes[length] = code;
            length++;
            return true;
        }

        /** Makes the row empty and answers its previous length. */
        int drop() {
            int previous = length;
            length = 0;
            return previous;
        }

        /** Answers the code at an offset, or NONE, which is no code, where the row has ended. */
        int codeAt(int offset) {
            return offset >= 0 && offset < length ? codes[offset] : NONE;
        }
    }

    /** The characters in their order, the edits, and the cursor: all that a snapshot keeps. */
    private static final class Buffer {
        private final int[] codes = new int[MOST_CHARACTERS];
        /** For each character the set of the edit that inserted it; empty if it was there from the beginning. */
        private final int[] owners = new int[MOST_CHARACTERS];
        /** For each character the set of edits that erased it, active or not. */
        private final int[] erasers = new int[MOST_CHARACTERS];
        private int total;
        /** The index of the visible character at each place, kept up to date by refresh(). */
        private final int[] indexes = new int[MOST_VISIBLE];
        private int length;
        /** For each edit the set of all edits on which it rests; it never changes once it was made. */
        private final int[] bases = new int[MOST_EDITS];
        private int edits;
        private int erasures;
        private int active;
        private int cursor;

        void startWith(Row text) {
            total = Math.min(text.length, MOST_VISIBLE);
            for (int i = 0; i < total; i++) {
                putCharacter(i, text.codeAt(i), 0);
            }
            edits = 0;
            erasures = 0;
            active = 0;
            cursor = 0;
            refresh();
        }

        void copyFrom(Buffer other) {
            System.arraycopy(other.codes, 0, codes, 0, MOST_CHARACTERS);
            System.arraycopy(other.owners, 0, owners, 0, MOST_CHARACTERS);
            System.arraycopy(other.erasers, 0, erasers, 0, MOST_CHARACTERS);
            System.arraycopy(other.indexes, 0, indexes, 0, MOST_VISIBLE);
            System.arraycopy(other.bases, 0, bases, 0, MOST_EDITS);
            total = other.total;
            length = other.length;
            edits = other.edits;
            erasures = other.erasures;
            active = other.active;
            cursor = other.cursor;
        }

        /** Answers the new edit's number or an error code; the characters are count of the row's, from an offset on. */
        int addInsertion(int gap, Row text, int from, int count) {
            if (gap < 0 || gap > length) {
                return INVALID_ARGUMENT;
            }
            if (count < 1 || count > MOST_INSERTED) {
                return ILLEGAL_STATE;
            }
            if (edits >= MOST_EDITS || length + count > MOST_VISIBLE || total + count > MOST_CHARACTERS) {
                return CAPACITY_EXCEEDED;
            }
            int start = gap == 0 ? 0 : indexes[gap - 1] + 1;
            bases[edits] = gap == 0 ? 0 : basesThrough(owners[start - 1]);
            makeRoom(start, count);
            for (int i = 0; i < count; i++) {
                putCharacter(start + i, text.codeAt(from + i), single(edits));
            }
            return finishEdit();
        }

        int addErasure(int from, int to) {
            if (!hasStretch(from, to)) {
                return INVALID_ARGUMENT;
            }
            if (edits >= MOST_EDITS) {
                return CAPACITY_EXCEEDED;
            }
            bases[edits] = 0;
            for (int place = from; place < to; place++) {
                erasers[indexes[place]] |= single(edits);
                bases[edits] |= basesThrough(ownerAt(place));
            }
            erasures |= single(edits);
            return finishEdit();
        }

        private void putCharacter(int index, int code, int owner) {
            if (index >= 0 && index < MOST_CHARACTERS) {
                codes[index] = code;
                owners[index] = owner;
                erasers[index] = 0;
            }
        }

        private void makeRoom(int start, int count) {
            for (int i = total - 1; i >= start; i--) {
                codes[i + count] = codes[i];
                owners[i + count] = owners[i];
                erasers[i + count] = erasers[i];
            }
            total += count;
        }

        private int finishEdit() {
            int number = edits;
            active |= single(number);
            edits++;
            refresh();
            return number;
        }

        /** Finds the text anew; the cursor never stands behind its end. */
        private void refresh() {
            length = 0;
            for (int i = 0; i < total && length < MOST_VISIBLE; i++) {
                if (isVisible(i, active)) {
                    indexes[length] = i;
                    length++;
                }
            }
            cursor = Math.min(cursor, length);
        }

        /** Makes just these edits active and answers the length of the text, if it has room. */
        int switchTo(int activeThen) {
            if (visibleAhead(total, activeThen) > MOST_VISIBLE) {
                return CAPACITY_EXCEEDED;
            }
            active = activeThen;
            refresh();
            return length;
        }

        /** Tells whether a character would be visible if just these edits were active. */
        private boolean isVisible(int index, int activeThen) {
            return (owners[index] & ~activeThen) == 0 && (erasers[index] & activeThen) == 0;
        }

        private int visibleAhead(int index, int activeThen) {
            int visible = 0;
            for (int i = 0; i < index && i < total; i++) {
                if (isVisible(i, activeThen)) {
                    visible++;
                }
            }
            return visible;
        }

        int placeAfter(int place, int activeThen) {
            if (!hasPlace(place)) {
                return NONE;
            }
            int index = indexes[place];
            return isVisible(index, activeThen) ? visibleAhead(index, activeThen) : NONE;
        }

        boolean hasPlace(int place) {
            return place >= 0 && place < length;
        }

        boolean hasStretch(int from, int to) {
            return from >= 0 && from < to && to <= length;
        }

        int codeAt(int place) {
            return hasPlace(place) ? codes[indexes[place]] : NONE;
        }

        int ownerAt(int place) {
            return hasPlace(place) ? owners[indexes[place]] : 0;
        }

        boolean hasEdit(int edit) {
            return edit >= 0 && edit < edits;
        }

        boolean hasEdits(int set) {
            return set >= 0 && set >> edits == 0;
        }

        int basesOf(int edit) {
            return hasEdit(edit) ? bases[edit] : 0;
        }

        /** Answers all on which an edit rests because of a character with this owner. */
        private int basesThrough(int owner) {
            return owner == 0 ? 0 : owner | basesOf(numberOf(owner));
        }

        /** Answers the edits, active or not, that rest on an edit of the set. */
        int dependentsOf(int set) {
            int found = 0;
            for (int e = 0; e < edits; e++) {
                if ((bases[e] & set) != 0) {
                    found |= single(e);
                }
            }
            return found;
        }

        int withActiveDependents(int set) {
            return set | dependentsOf(set) & active;
        }

        boolean canTakeBack(int set) {
            return (set & ~active) == 0 && (dependentsOf(set) & active & ~set) == 0;
        }

        boolean canBringBack(int set) {
            int needed = 0;
            for (int e = 0; e < edits; e++) {
                if (has(set, e)) {
                    needed |= bases[e];
                }
            }
            return (set & active) == 0 && (needed & ~(active | set)) == 0;
        }

        int looseEdits() {
            int found = 0;
            for (int e = 0; e < edits; e++) {
                if (canTakeBack(single(e))) {
                    found |= single(e);
                }
            }
            return found;
        }

        boolean areFree(int first, int second) {
            return !has(basesOf(first), second) && !has(basesOf(second), first);
        }

        int commutingPairs() {
            int pairs = 0;
            for (int second = 0; second < edits; second++) {
                for (int first = 0; first < second; first++) {
                    if (areFree(first, second)) {
                        pairs++;
                    }
                }
            }
            return pairs;
        }

        /** Tells whether the edit inserted or erased the character. */
        private boolean touched(int index, int edit) {
            return has(owners[index] | erasers[index], edit);
        }

        int sizeOf(int edit) {
            int size = 0;
            for (int i = 0; i < total; i++) {
                if (touched(i, edit)) {
                    size++;
                }
            }
            return size;
        }

        int placeOf(int edit) {
            int first = 0;
            while (first < total && !touched(first, edit)) {
                first++;
            }
            return visibleAhead(first, active);
        }

        int priceOf(int edit, int ageRate, int distanceRate) {
            int younger = Integer.bitCount(active >> edit + 1);
            int distance = Math.abs(placeOf(edit) - cursor);
            return 1 + ageRate * younger + distanceRate * (distance / DISTANCE_STEP);
        }

        int priceOfSet(int set, int ageRate, int distanceRate) {
            int sum = 0;
            for (int e = 0; e < edits; e++) {
                if (has(set, e)) {
                    sum += priceOf(e, ageRate, distanceRate);
                }
            }
            return sum;
        }

        /** Answers how many characters with this owner follow one another from a place on. */
        int stretchFrom(int place, int owner) {
            int end = place;
            while (end < length && ownerAt(end) == owner) {
                end++;
            }
            return end - place;
        }

        /** Answers the first place of the first longest stretch, or 0 if the owner has none in the text. */
        int longestStretch(int owner) {
            int best = 0;
            int longest = 0;
            int place = 0;
            while (place < length) {
                int size = stretchFrom(place, owner);
                if (size > longest) {
                    longest = size;
                    best = place;
                }
                place += Math.max(size, 1);
            }
            return best;
        }

        /** Answers the active edits that inserted what is visible of a stretch, or erased any of it. */
        int editsWithin(int from, int to) {
            if (!hasStretch(from, to)) {
                return 0;
            }
            int found = 0;
            for (int i = indexes[from]; i <= indexes[to - 1]; i++) {
                found |= erasers[i] & active;
                if (isVisible(i, active)) {
                    found |= owners[i];
                }
            }
            return found;
        }

        int differencesFrom(Buffer other) {
            int common = Math.min(length, other.length);
            int found = Math.abs(length - other.length);
            for (int place = 0; place < common; place++) {
                if (codeAt(place) != other.codeAt(place)) {
                    found++;
                }
            }
            return found;
        }
    }

    /** The script, and the command in it that was read last. */
    private static final class Script {
        private static final int COMMAND = 1;
        private static final int END = 0;
        private static final int FAULT = -1;

        private final Row signs = new Row(MOST_IN_SCRIPT);
        private int at;
        private int sign;
        private int first;
        private int second;
        private int lettersAt;
        private int letters;

        void rewind() {
            at = 0;
        }

        /** Reads the whole script and answers its error position, or NONE. */
        int firstError() {
            rewind();
            int read = COMMAND;
            for (int i = 0; i <= MOST_IN_SCRIPT && read == COMMAND; i++) {
                read = next();
            }
            return read == FAULT ? at : NONE;
        }

        /** Reads the next command; at a fault, the position stays at the sign that is not allowed. */
        int next() {
            while (at < signs.length && signs.codeAt(at) == ' ') {
                at++;
            }
            if (at >= signs.length) {
                return END;
            }
            return readSign() && readRest() && accept(';') ? COMMAND : FAULT;
        }

        private boolean readSign() {
            sign = signs.codeAt(at);
            return accept('+') || accept('-') || accept('<') || accept('>') || accept('@');
        }

        private boolean readRest() {
            first = readNumber();
            if (first < 0) {
                return false;
            }
            if (sign == '+') {
                return accept(':') && readLetters();
            }
            if (sign == '-') {
                return accept(',') && readSecond();
            }
            return true;
        }

        private boolean readSecond() {
            second = readNumber();
            return second >= 0;
        }

        /** Answers the number, or NONE; behind a leading 0 another digit is left where it is not allowed. */
        private int readNumber() {
            if (!isDigit(signs.codeAt(at))) {
                return NONE;
            }
            int number = signs.codeAt(at) - '0';
            at++;
            if (number > 0 && isDigit(signs.codeAt(at))) {
                number = number * 10 + signs.codeAt(at) - '0';
                at++;
            }
            return number;
        }

        private boolean readLetters() {
            lettersAt = at;
            letters = 0;
            while (letters < MOST_INSERTED && isLetter(signs.codeAt(at))) {
                letters++;
                at++;
            }
            return letters > 0;
        }

        private boolean accept(char wanted) {
            if (signs.codeAt(at) != wanted) {
                return false;
            }
            at++;
            return true;
        }

        private static boolean isDigit(int code) {
            return code >= '0' && code <= '9';
        }

        private static boolean isLetter(int code) {
            return code >= 'a' && code <= 'z';
        }
    }

    /** Tries the sets of active edits for the cheapest one that reaches a goal. */
    private static final class Search {
        /** Neighbours that are visible under the same conditions form a piece, since thousands of sets are tried. */
        private final int[] owners = new int[MOST_CHARACTERS];
        private final int[] hiders = new int[MOST_CHARACTERS];
        private final int[] sizes = new int[MOST_CHARACTERS];
        private final int[] firstCodes = new int[MOST_CHARACTERS];
        private int pieces;
        private final int[] prices = new int[MOST_EDITS];
        private int edits;
        private int active;
        private int kind;
        private int value;
        private int bestSet;
        private int bestPrice;

        void setGoal(int goalKind, int goalValue) {
            kind = goalKind;
            value = goalValue;
        }

        void readState(Buffer buffer, int ageRate, int distanceRate) {
            edits = buffer.edits;
            active = buffer.active;
            for (int e = 0; e < edits; e++) {
                prices[e] = has(active, e) ? buffer.priceOf(e, ageRate, distanceRate) : 0;
            }
            pieces = 0;
            for (int i = 0; i < buffer.total; i++) {
                if (matters(buffer.codes[i], buffer.owners[i])) {
                    addToPieces(buffer.owners[i], buffer.erasers[i] & active, buffer.codes[i]);
                }
            }
        }

        /** What an edit that is not active inserted cannot become visible by taking back. */
        private boolean matters(int code, int owner) {
            return (owner & ~active) == 0 && (kind != GOAL_WITHOUT || code == value);
        }

        private void addToPieces(int owner, int hidden, int code) {
            int last = pieces - 1;
            if (last >= 0 && owners[last] == owner && hiders[last] == hidden) {
                sizes[last]++;
            } else if (pieces < MOST_CHARACTERS) {
                owners[pieces] = owner;
                hiders[pieces] = hidden;
                sizes[pieces] = 1;
                firstCodes[pieces] = code;
                pieces++;
            }
        }

        /** Tries all sets by growing bits, so that of equal ones the first one stays; tells whether one was found. */
        boolean findBest(Buffer buffer) {
            boolean found = false;
            int sets = 1 << Integer.bitCount(active);
            int set = 0;
            for (int i = 0; i < sets; i++) {
                int cost = costOf(set);
                if ((!found || isBetter(set, cost)) && buffer.canTakeBack(set) && isReached(set)) {
                    found = true;
                    bestSet = set;
                    bestPrice = cost;
                }
                set = (set - active) & active;
            }
            return found;
        }

        private boolean isBetter(int set, int cost) {
            boolean fewer = Integer.bitCount(set) < Integer.bitCount(bestSet);
            return cost < bestPrice || cost == bestPrice && fewer;
        }

        private int costOf(int set) {
            int sum = 0;
            for (int e = 0; e < edits; e++) {
                if (has(set, e)) {
                    sum += prices[e];
                }
            }
            return sum;
        }

        private boolean isReached(int set) {
            switch (kind) {
                case GOAL_LENGTH:
                    return visibleWithout(set) == value;
                case GOAL_WITHOUT:
                    return visibleWithout(set) == 0;
                case GOAL_BEGINS:
                    return firstCodeWithout(set) == value;
                default:
                    return (active & ~set & editsBelow(value)) == 0;
            }
        }

        private boolean isPieceVisible(int piece, int set) {
            return (owners[piece] & set) == 0 && (hiders[piece] & ~set) == 0;
        }

        private int visibleWithout(int set) {
            int visible = 0;
            for (int i = 0; i < pieces; i++) {
                if (isPieceVisible(i, set)) {
                    visible += sizes[i];
                }
            }
            return visible;
        }

        private int firstCodeWithout(int set) {
            for (int i = 0; i < pieces; i++) {
                if (isPieceVisible(i, set)) {
                    return firstCodes[i];
                }
            }
            return NONE;
        }

        private static int editsBelow(int number) {
            return single(Math.min(number, MOST_EDITS)) - 1;
        }
    }
}
