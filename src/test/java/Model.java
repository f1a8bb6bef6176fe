import java.util.ArrayList;
import java.util.HashMap;
import java.util.HashSet;
import java.util.List;
import java.util.Map;
import java.util.Set;
import java.util.regex.Matcher;
import java.util.regex.Pattern;

/**
 * The document once more, written the slow way: characters and edits are objects, and everything is
 * worked out from the definitions at each question. ModelTest holds the class against it.
 */
final class Model {
    static final int INVALID = -1;
    static final int ILLEGAL = -2;
    static final int FULL = -3;
    static final int NONE = -9;

    private static final Pattern COMMAND =
        Pattern.compile("\\+(0|[1-9][0-9]?):([a-z]{1,8});|-(0|[1-9][0-9]?),(0|[1-9][0-9]?);|([<>@])(0|[1-9][0-9]?);");
    private static final Pattern SCRIPT = Pattern.compile(" *(?:(?:" + COMMAND.pattern() + ") *)*");

    /** A character; the edit that inserted it is null if it was there from the beginning. */
    private static final class Sign {
        final char code;
        final Edit inserter;

        Sign(char code, Edit inserter) {
            this.code = code;
            this.inserter = inserter;
        }
    }

    private static final class Edit {
        final boolean erasure;
        boolean active = true;
        Sign anchor;
        final List<Sign> signs = new ArrayList<>();

        Edit(boolean erasure) {
            this.erasure = erasure;
        }
    }

    private static final class State {
        List<Sign> order = new ArrayList<>();
        List<Edit> edits = new ArrayList<>();
        int cursor = 0;

        State copy() {
            State copy = new State();
            Map<Edit, Edit> newEdits = new HashMap<>();
            Map<Sign, Sign> newSigns = new HashMap<>();
            for (Edit edit : edits) {
                Edit twin = new Edit(edit.erasure);
                twin.active = edit.active;
                newEdits.put(edit, twin);
                copy.edits.add(twin);
            }
            for (Sign sign : order) {
                Sign twin = new Sign(sign.code, newEdits.get(sign.inserter));
                newSigns.put(sign, twin);
                copy.order.add(twin);
            }
            for (Edit edit : edits) {
                Edit twin = newEdits.get(edit);
                twin.anchor = newSigns.get(edit.anchor);
                for (Sign sign : edit.signs) {
                    twin.signs.add(newSigns.get(sign));
                }
            }
            copy.cursor = cursor;
            return copy;
        }
    }

    private State state = new State();
    private final State[] slots = new State[2];
    private String clip = "";
    private String script = "";
    private int a = 1;
    private int b = 1;

    // ---- the definitions

    private boolean isVisible(State in, Sign sign, Set<Edit> gone) {
        if (sign.inserter != null && (!sign.inserter.active || gone.contains(sign.inserter))) {
            return false;
        }
        for (Edit edit : in.edits) {
            if (edit.erasure && edit.active && !gone.contains(edit) && edit.signs.contains(sign)) {
                return false;
            }
        }
        return true;
    }

    private List<Sign> text(State in, Set<Edit> gone) {
        List<Sign> text = new ArrayList<>();
        for (Sign sign : in.order) {
            if (isVisible(in, sign, gone)) {
                text.add(sign);
            }
        }
        return text;
    }

    private List<Sign> text() {
        return text(state, Set.of());
    }

    private boolean restsDirectly(Edit f, Edit e) {
        if (e.erasure) {
            return false;
        }
        if (!f.erasure) {
            return f.anchor != null && f.anchor.inserter == e;
        }
        for (Sign sign : f.signs) {
            if (sign.inserter == e) {
                return true;
            }
        }
        return false;
    }

    private boolean rests(Edit f, Edit e) {
        for (Edit middle : state.edits) {
            if (restsDirectly(f, middle) && (middle == e || rests(middle, e))) {
                return true;
            }
        }
        return false;
    }

    private boolean canTakeBack(Set<Edit> set) {
        for (Edit e : set) {
            if (!e.active) {
                return false;
            }
            for (Edit f : state.edits) {
                if (f.active && rests(f, e) && !set.contains(f)) {
                    return false;
                }
            }
        }
        return true;
    }

    private boolean canBringBack(Set<Edit> set) {
        for (Edit f : set) {
            if (f.active) {
                return false;
            }
            for (Edit e : state.edits) {
                if (rests(f, e) && !e.active && !set.contains(e)) {
                    return false;
                }
            }
        }
        return true;
    }

    private int place(Edit edit) {
        int ahead = 0;
        for (Sign sign : state.order) {
            if (edit.signs.contains(sign)) {
                break;
            }
            ahead += isVisible(state, sign, Set.of()) ? 1 : 0;
        }
        return ahead;
    }

    private int priceOf(Edit edit) {
        int price = 1;
        for (int f = state.edits.indexOf(edit) + 1; f < state.edits.size(); f++) {
            price += state.edits.get(f).active ? a : 0;
        }
        for (int far = Math.abs(place(edit) - state.cursor); far >= 4; far -= 4) {
            price += b;
        }
        return price;
    }

    private int priceOf(Set<Edit> set) {
        int sum = 0;
        for (Edit edit : set) {
            sum += priceOf(edit);
        }
        return sum;
    }

    private boolean exists(int edit) {
        return edit >= 0 && edit < state.edits.size();
    }

    /** The edits of a set, or null if it is negative or one does not exist. */
    private Set<Edit> members(int set) {
        if (set < 0) {
            return null;
        }
        Set<Edit> members = new HashSet<>();
        for (int e = 0; e < 31; e++) {
            if ((set >> e & 1) == 1) {
                if (!exists(e)) {
                    return null;
                }
                members.add(state.edits.get(e));
            }
        }
        return members;
    }

    private int bits(Set<Edit> set) {
        int bits = 0;
        for (Edit edit : set) {
            bits |= 1 << state.edits.indexOf(edit);
        }
        return bits;
    }

    private void shortenCursor() {
        state.cursor = Math.min(state.cursor, text().size());
    }

    // ---- the calls

    int appendCharacter(int character) {
        if (character < 32 || character > 126) {
            return INVALID;
        }
        if (clip.length() == 60) {
            return FULL;
        }
        clip += (char) character;
        return clip.length();
    }

    int clearClip() {
        int previous = clip.length();
        clip = "";
        return previous;
    }

    int begin() {
        state = new State();
        for (char code : clip.toCharArray()) {
            state.order.add(new Sign(code, null));
        }
        return clearClip();
    }

    int insert(int gap) {
        int answer = insert(gap, clip);
        if (answer >= 0) {
            clip = "";
        }
        return answer;
    }

    private int insert(int gap, String letters) {
        List<Sign> text = text();
        if (gap < 0 || gap > text.size()) {
            return INVALID;
        }
        if (letters.isEmpty() || letters.length() > 8) {
            return ILLEGAL;
        }
        if (state.edits.size() == 16 || text.size() + letters.length() > 60
            || state.order.size() + letters.length() > 160) {
            return FULL;
        }
        Edit edit = new Edit(false);
        edit.anchor = gap == 0 ? null : text.get(gap - 1);
        for (char code : letters.toCharArray()) {
            edit.signs.add(new Sign(code, edit));
        }
        state.order.addAll(edit.anchor == null ? 0 : state.order.indexOf(edit.anchor) + 1, edit.signs);
        state.edits.add(edit);
        return state.edits.size() - 1;
    }

    private boolean isStretch(int from, int to) {
        int length = text().size();
        return from >= 0 && from <= length - 1 && to >= from + 1 && to <= length;
    }

    int erase(int from, int to) {
        if (!isStretch(from, to)) {
            return INVALID;
        }
        if (state.edits.size() == 16) {
            return FULL;
        }
        Edit edit = new Edit(true);
        edit.signs.addAll(text().subList(from, to));
        state.edits.add(edit);
        shortenCursor();
        return state.edits.size() - 1;
    }

    int setCursor(int cursor) {
        if (cursor < 0 || cursor > text().size()) {
            return INVALID;
        }
        int previous = state.cursor;
        state.cursor = cursor;
        return previous;
    }

    int setPrices(int newA, int newB) {
        if (newA < 0 || newA > 9 || newB < 0 || newB > 9) {
            return INVALID;
        }
        int changed = newA == a && newB == b ? 0 : 1;
        a = newA;
        b = newB;
        return changed;
    }

    int character(int place) {
        if (place < 0) {
            return INVALID;
        }
        return place >= text().size() ? NONE : text().get(place).code;
    }

    int author(int place) {
        if (place < 0 || place >= text().size()) {
            return INVALID;
        }
        Edit inserter = text().get(place).inserter;
        return inserter == null ? NONE : state.edits.indexOf(inserter);
    }

    int count(int what) {
        int active = 0;
        int pairs = 0;
        for (int e = 0; e < state.edits.size(); e++) {
            active += state.edits.get(e).active ? 1 : 0;
            for (int f = e + 1; f < state.edits.size(); f++) {
                pairs += commute(e, f);
            }
        }
        int[] answers = {text().size(), state.order.size(), state.edits.size(), active, state.cursor, clip.length(), pairs};
        return what < 0 || what > 6 ? INVALID : answers[what];
    }

    int edit(int number, int what) {
        if (!exists(number) || what < 0 || what > 6) {
            return INVALID;
        }
        Edit edit = state.edits.get(number);
        Set<Edit> below = new HashSet<>();
        Set<Edit> above = new HashSet<>();
        for (Edit other : state.edits) {
            if (rests(edit, other)) {
                below.add(other);
            }
            if (rests(other, edit)) {
                above.add(other);
            }
        }
        int[] answers = {edit.erasure ? 1 : 0, edit.active ? 1 : 0, edit.signs.size(), place(edit),
            edit.active ? priceOf(edit) : NONE, bits(below), bits(above)};
        return answers[what];
    }

    int commute(int first, int second) {
        if (!exists(first) || !exists(second) || first == second) {
            return INVALID;
        }
        Edit e = state.edits.get(first);
        Edit f = state.edits.get(second);
        return rests(e, f) || rests(f, e) ? 0 : 1;
    }

    int closure(int number) {
        if (!exists(number)) {
            return INVALID;
        }
        Edit edit = state.edits.get(number);
        if (!edit.active) {
            return ILLEGAL;
        }
        Set<Edit> set = new HashSet<>(Set.of(edit));
        for (Edit f : state.edits) {
            if (f.active && rests(f, edit)) {
                set.add(f);
            }
        }
        return bits(set);
    }

    int price(int set) {
        Set<Edit> members = members(set);
        if (members == null) {
            return INVALID;
        }
        return canTakeBack(members) ? priceOf(members) : ILLEGAL;
    }

    int takeBack(int set) {
        Set<Edit> members = members(set);
        if (members == null || members.isEmpty()) {
            return INVALID;
        }
        return canTakeBack(members) ? turn(members) : ILLEGAL;
    }

    int bringBack(int set) {
        Set<Edit> members = members(set);
        if (members == null || members.isEmpty()) {
            return INVALID;
        }
        return canBringBack(members) ? turn(members) : ILLEGAL;
    }

    private int turn(Set<Edit> set) {
        for (Edit edit : set) {
            edit.active = !edit.active;
        }
        int length = text().size();
        if (length > 60) {
            for (Edit edit : set) {
                edit.active = !edit.active;
            }
            return FULL;
        }
        shortenCursor();
        return length;
    }

    int carried(int set, int place) {
        Set<Edit> members = members(set);
        if (members == null || place < 0 || place >= text().size()) {
            return INVALID;
        }
        if (!canTakeBack(members)) {
            return ILLEGAL;
        }
        int then = text(state, members).indexOf(text().get(place));
        return then < 0 ? NONE : then;
    }

    int loose() {
        Set<Edit> found = new HashSet<>();
        for (Edit edit : state.edits) {
            if (edit.active && canTakeBack(Set.of(edit))) {
                found.add(edit);
            }
        }
        return bits(found);
    }

    int opening(int number) {
        if (!exists(number)) {
            return INVALID;
        }
        Edit edit = state.edits.get(number);
        if (edit.active) {
            return ILLEGAL;
        }
        Set<Edit> set = new HashSet<>(Set.of(edit));
        for (Edit e : state.edits) {
            if (!e.active && rests(edit, e)) {
                set.add(e);
            }
        }
        return bits(set);
    }

    int run(int author, int part) {
        if (author < -1 || author >= state.edits.size() || part < 0 || part > 1) {
            return INVALID;
        }
        Edit wanted = author < 0 ? null : state.edits.get(author);
        List<Sign> text = text();
        int bestLength = 0;
        int bestPlace = NONE;
        for (int from = text.size() - 1; from >= 0; from--) {
            int to = from;
            while (to < text.size() && text.get(to).inserter == wanted) {
                to++;
            }
            if (to > from && to - from >= bestLength) {
                bestLength = to - from;
                bestPlace = from;
            }
        }
        return part == 0 ? bestLength : bestPlace;
    }

    int appendScript(int character) {
        if (character < 0 || character > 255) {
            return INVALID;
        }
        if (script.length() == 80) {
            return FULL;
        }
        script += (char) character;
        return script.length();
    }

    int clearScript() {
        int previous = script.length();
        script = "";
        return previous;
    }

    /** A beginning of a script is possible if it is a script, or if more signs could make it one. */
    private static boolean isPossible(String beginning) {
        Matcher matcher = SCRIPT.matcher(beginning);
        return matcher.matches() || matcher.hitEnd();
    }

    int runScript() {
        if (!SCRIPT.matcher(script).matches()) {
            int at = 0;
            while (at < script.length() && isPossible(script.substring(0, at + 1))) {
                at++;
            }
            return -10 - at;
        }
        int done = 0;
        Matcher command = COMMAND.matcher(script);
        while (command.find()) {
            done += carryOut(command) >= 0 ? 1 : 0;
        }
        script = "";
        return done;
    }

    private int carryOut(Matcher command) {
        if (command.group(1) != null) {
            return insert(Integer.parseInt(command.group(1)), command.group(2));
        }
        if (command.group(3) != null) {
            return erase(Integer.parseInt(command.group(3)), Integer.parseInt(command.group(4)));
        }
        int number = Integer.parseInt(command.group(6));
        if (command.group(5).equals("@")) {
            return setCursor(number);
        }
        int set = command.group(5).equals("<") ? closure(number) : opening(number);
        if (set < 0) {
            return set;
        }
        return command.group(5).equals("<") ? takeBack(set) : bringBack(set);
    }

    private boolean isReached(int kind, int value, Set<Edit> gone) {
        if (kind == 3) {
            for (int e = 0; e < Math.min(value, state.edits.size()); e++) {
                Edit edit = state.edits.get(e);
                if (edit.active && !gone.contains(edit)) {
                    return false;
                }
            }
            return true;
        }
        StringBuilder text = new StringBuilder();
        for (Sign sign : text(state, gone)) {
            text.append(sign.code);
        }
        switch (kind) {
            case 0:
                return text.length() == value;
            case 1:
                return text.indexOf("" + (char) value) < 0;
            default:
                return text.length() > 0 && text.charAt(0) == value;
        }
    }

    /** The set and its price, or twice the code that is due. */
    int[] best(int kind, int value) {
        if (kind < 0 || kind > 3 || value < 0 || value > 126) {
            return new int[] {INVALID, INVALID};
        }
        if (count(3) > 12) {
            return new int[] {ILLEGAL, ILLEGAL};
        }
        int[] best = {NONE, NONE};
        for (int set = (1 << state.edits.size()) - 1; set >= 0; set--) {
            Set<Edit> members = members(set);
            if (!isSubsetOfActive(members) || !canTakeBack(members)) {
                continue;
            }
            int price = priceOf(members);
            boolean first = best[0] == NONE;
            boolean asGood = first || price < best[1]
                || price == best[1] && Integer.bitCount(set) <= Integer.bitCount(best[0]);
            if (asGood && isReached(kind, value, members)) {
                best[0] = set;
                best[1] = price;
            }
        }
        return best;
    }

    private boolean isSubsetOfActive(Set<Edit> members) {
        for (Edit edit : members) {
            if (!edit.active) {
                return false;
            }
        }
        return true;
    }

    int clearing(int from, int to) {
        if (!isStretch(from, to)) {
            return INVALID;
        }
        List<Sign> text = text();
        int first = state.order.indexOf(text.get(from));
        int last = state.order.indexOf(text.get(to - 1));
        Set<Edit> found = new HashSet<>();
        for (Sign sign : state.order.subList(first, last + 1)) {
            for (Edit edit : state.edits) {
                boolean counts = edit.erasure || isVisible(state, sign, Set.of());
                if (edit.active && counts && edit.signs.contains(sign)) {
                    found.add(edit);
                }
            }
        }
        Set<Edit> all = new HashSet<>(found);
        for (Edit e : found) {
            for (Edit f : state.edits) {
                if (f.active && rests(f, e)) {
                    all.add(f);
                }
            }
        }
        return bits(all);
    }

    int save(int slot) {
        if (slot != 0 && slot != 1) {
            return INVALID;
        }
        slots[slot] = state.copy();
        return text().size();
    }

    int restore(int slot) {
        if (slot != 0 && slot != 1) {
            return INVALID;
        }
        if (slots[slot] == null) {
            return ILLEGAL;
        }
        state = slots[slot].copy();
        return text().size();
    }

    int difference(int slot) {
        if (slot != 0 && slot != 1) {
            return INVALID;
        }
        if (slots[slot] == null) {
            return ILLEGAL;
        }
        List<Sign> mine = text();
        List<Sign> other = text(slots[slot], Set.of());
        int found = 0;
        for (int place = 0; place < Math.max(mine.size(), other.size()); place++) {
            boolean both = place < mine.size() && place < other.size();
            found += both && mine.get(place).code == other.get(place).code ? 0 : 1;
        }
        return found;
    }
}
