import java.util.function.Supplier;

/**
 * Promises 28 to 30: each sentence that names a smallest or a largest value, something empty or full, or a
 * refused call, at its boundary and on both sides of it.
 */
public final class SnapshotBoundariesTest {
    private static final int INVALID = PricedUndo.INVALID_ARGUMENT;
    private static final int ILLEGAL = PricedUndo.ILLEGAL_STATE;
    private static final int[] WRONG_SLOTS = {-1, 2, 32, 256, Integer.MIN_VALUE, Integer.MAX_VALUE};

    public static void main(String[] args) {
        saveOutOfRange();
        saveSmallestAndGreatest();
        saveAgain();
        restoreOutOfRange();
        restoreNothing();
        restoreKeepsTheSlot();
        restoreCursor();
        restoreFullBuffer();
        restoreOver160Others();
        restoreForgetsTheLastErasure();
        differenceOutOfRange();
        differenceFromNothing();
        differenceOfPlaces();
        differenceOfLengths();
        differenceAtTheLastPlaces();
        differenceChangesNothing();
        Check.finish();
    }

    private static PricedUndo sample() {
        return Scene.sampleWithout(16);
    }

    /** A text and a clip, and nothing saved. */
    private static PricedUndo unsaved() {
        PricedUndo x = Scene.sample();
        Check.clip(x, "pq");
        x.setCursor(3);
        return x;
    }

    // ---- promise 28

    private static void saveOutOfRange() {
        Check.sentence("save: slot: 0 or 1; INVALID_ARGUMENT if slot is out of range");
        for (int slot : WRONG_SLOTS) {
            Refusal.due("save " + slot, SnapshotBoundariesTest::sample, x -> x.save(slot), INVALID);
            Refusal.due("save " + slot + " where nothing was saved", SnapshotBoundariesTest::unsaved, x -> x.save(slot), INVALID);
        }
        Check.due("save 0", sample().save(0), 6);
        Check.due("save 1", sample().save(1), 6);
    }

    private static void saveSmallestAndGreatest() {
        Check.sentence("save: Returns the length of the text");
        Check.due("of a new object", new PricedUndo().save(0), 0);
        Check.due("60", Check.begun(Check.letters(60)).save(1), 60);
        PricedUndo x = Check.begun("ab");
        Check.due("erase", x.erase(0, 2), 0);
        Check.due("all is hidden", x.save(0), 0);
    }

    private static void saveAgain() {
        Check.sentence("Saves buffer, edits and cursor in a slot.");
        PricedUndo x = Check.begun("abc");
        Check.due("save", x.save(0), 3);
        Check.due("insert", Check.insert(x, 0, "X"), 0);
        Check.due("the other slot", x.save(1), 4);
        Check.due("erase", x.erase(0, 4), 1);
        Check.due("over the first", x.save(0), 0);
        Check.due("the other slot is as it was", x.restore(1), 4);
        Check.due("edits", x.count(2), 1);
        Check.due("the first is the newer one", x.restore(0), 0);
        Check.due("edits", x.count(2), 2);
    }

    // ---- promise 29

    private static void restoreOutOfRange() {
        Check.sentence("restore: slot: 0 or 1; INVALID_ARGUMENT if slot is out of range");
        for (int slot : WRONG_SLOTS) {
            Refusal.due("restore " + slot, SnapshotBoundariesTest::sample, x -> x.restore(slot), INVALID);
            Refusal.due("restore " + slot + ", nothing saved", SnapshotBoundariesTest::unsaved, x -> x.restore(slot), INVALID);
        }
        Check.due("restore 0", sample().restore(0), 6);
        Check.due("restore 1", sample().restore(1), 6);
    }

    private static void restoreNothing() {
        Check.sentence("restore: ILLEGAL_STATE if nothing was saved there");
        for (int slot = 0; slot < 2; slot++) {
            int empty = slot;
            Refusal.due("restore " + slot, SnapshotBoundariesTest::unsaved, x -> x.restore(empty), ILLEGAL);
            Refusal.due("restore " + slot + " beside the other", () -> savedIn(1 - empty), x -> x.restore(empty), ILLEGAL);
            Check.due("the other", savedIn(1 - empty).restore(1 - empty), 5);
            PricedUndo x = unsaved();
            Check.due("a refused save", x.save(slot + 2), INVALID);
            Check.due("saves nothing", x.restore(slot), ILLEGAL);
            PricedUndo y = new PricedUndo();
            Check.due("an empty text", y.save(slot), 0);
            Check.due("was saved too", y.restore(slot), 0);
        }
    }

    private static PricedUndo savedIn(int slot) {
        PricedUndo x = unsaved();
        Check.due("save", x.save(slot), 5);
        return x;
    }

    private static void restoreKeepsTheSlot() {
        Check.sentence("Restores buffer, edits and cursor from a slot, which is kept.");
        PricedUndo x = sample();
        String before = Check.state(x);
        Check.due("insert", x.insert(0), 5);
        Check.due("restore", x.restore(1), 6);
        Check.due("insert again, where the other one was", Check.insert(x, 6, "Q"), 5);
        Check.due("take all back", x.takeBack(1 + 2 + 4 + 8 + 32), 4);
        Check.due("restore again", x.restore(1), 6);
        Check.clip(x, "pq");
        Check.due("all is as it was", Check.state(x), before);
    }

    private static void restoreCursor() {
        Check.sentence("Restores ... cursor (its smallest and its greatest)");
        PricedUndo x = Check.begun(Check.letters(60));
        Check.due("save at 0", x.save(0), 60);
        x.setCursor(60);
        Check.due("save at 60", x.save(1), 60);
        Check.due("erase all", x.erase(0, 60), 0);
        Check.due("cursor", x.count(4), 0);
        Check.due("restore", x.restore(1), 60);
        Check.due("cursor", x.count(4), 60);
        Check.due("restore", x.restore(0), 60);
        Check.due("cursor", x.count(4), 0);
    }

    private static void restoreFullBuffer() {
        Check.sentence("Returns the length of the text then (a full and an empty buffer)");
        PricedUndo y = fullBuffer();
        String full = Check.text(y);
        Check.due("save a full one", y.save(0), 43);
        Check.due("begin", y.begin(), 0);
        Check.due("save an empty one", y.save(1), 0);
        Check.due("restore the full one", y.restore(0), 43);
        Check.due("text", Check.text(y), full);
        Check.due("all characters", y.count(1), 160);
        Check.due("edits", y.count(2), 16);
        Check.due("a 17th", y.erase(0, 1), PricedUndo.CAPACITY_EXCEEDED);
        Check.due("the last one is an erasure", y.edit(15, 0), 1);
        Check.due("restore the empty one", y.restore(1), 0);
        Check.due("edits", y.count(2), 0);
        Check.due("the first edit", Check.insert(y, 0, "a"), 0);
        Check.due("all characters", y.count(1), 1);

        PricedUndo x = Scene.chainOf16();
        Check.due("save", x.save(0), 16);
        Check.clip(x, Check.letters(16));
        Check.due("begin", x.begin(), 16);
        for (int edit = 0; edit < 16; edit++) {
            Check.due("erase", x.erase(0, 1), edit);
        }
        Check.due("restore over 16 other edits", x.restore(0), 16);
        Check.due("the last one rests on all others", x.edit(15, 5), 32767);
        Check.due("it is an insertion", x.edit(15, 0), 0);
    }

    private static void restoreOver160Others() {
        Check.sentence("Restores buffer, edits and cursor from a slot (over as many characters and edits as there may be)");
        PricedUndo x = Scene.with160Characters();
        String text = Check.text(x);
        Check.due("save", x.save(0), 45);
        Scene.fill(x, 60);
        Check.due("160 again", Check.insert(x, 0, "stuv"), 14);
        Check.due("all characters", x.count(1), 160);
        Check.due("restore", x.restore(0), 45);
        Check.due("text", Check.text(x), text);
        Check.due("the author of the last of all", x.author(44), 14);
        Check.due("its insertion alone is taken back", x.takeBack(1 << 14), 41);
    }

    private static void restoreForgetsTheLastErasure() {
        Check.sentence("Restores ... edits (an erasure of the last of all characters is gone)");
        PricedUndo x = Scene.with160Characters();
        Check.due("save", x.save(1), 45);
        Check.due("erase the last of all", x.erase(44, 45), 15);
        Check.due("restore", x.restore(1), 45);
        Check.due("another erasure bears its number", x.erase(0, 1), 15);
        Check.due("the last of all still shows", x.character(43), 'z');
        Check.due("length", x.count(0), 44);
        Check.due("one character was erased", x.edit(15, 2), 1);
    }

    /** 160 characters and 16 edits. */
    private static PricedUndo fullBuffer() {
        PricedUndo x = Scene.with156Characters();
        Check.due("insert", Check.insert(x, 20, "wxyz"), 14);
        Check.due("erase", x.erase(20, 21), 15);
        return x;
    }

    // ---- promise 30

    private static void differenceOutOfRange() {
        Check.sentence("difference: slot: 0 or 1; INVALID_ARGUMENT if slot is out of range");
        for (int slot : WRONG_SLOTS) {
            Refusal.due("difference " + slot, SnapshotBoundariesTest::sample, x -> x.difference(slot), INVALID);
            Refusal.due("difference " + slot + ", nothing saved", SnapshotBoundariesTest::unsaved, x -> x.difference(slot), INVALID);
        }
    }

    private static void differenceFromNothing() {
        Check.sentence("difference: ILLEGAL_STATE if nothing was saved there");
        for (int slot = 0; slot < 2; slot++) {
            int empty = slot;
            Refusal.due("difference " + slot, SnapshotBoundariesTest::unsaved, x -> x.difference(empty), ILLEGAL);
            Refusal.due("difference " + slot + " beside the other", () -> savedIn(1 - empty), x -> x.difference(empty), ILLEGAL);
            Check.due("the other", savedIn(1 - empty).difference(1 - empty), 0);
            PricedUndo y = new PricedUndo();
            Check.due("an empty text", y.save(slot), 0);
            Check.due("was saved too", y.difference(slot), 0);
        }
    }

    private static PricedUndo saved(String then, String now) {
        PricedUndo x = Check.begun(then);
        Check.due("save", x.save(0), then.length());
        Check.clip(x, now);
        Check.due("begin", x.begin(), now.length());
        return x;
    }

    private static void differenceOfPlaces() {
        Check.sentence("the places that both have and at which the characters are different");
        Check.due("none", saved("abcd", "abcd").difference(0), 0);
        Check.due("the first", saved("abcd", "xbcd").difference(0), 1);
        Check.due("the last", saved("abcd", "abcx").difference(0), 1);
        Check.due("all", saved("abcd", "bcda").difference(0), 4);
        Check.due("all of 60", saved("a" + Check.letters(59), Check.letters(60)).difference(0), 59);
        Supplier<PricedUndo> other = () -> saved("abcd", "bcd");
        PricedUndo x = other.get();
        Check.due("an author makes no difference", Check.insert(x, 0, "a"), 0);
        Check.due("none", x.difference(0), 0);
    }

    private static void differenceOfLengths() {
        Check.sentence("plus the difference of the lengths");
        Check.due("both empty", saved("", "").difference(0), 0);
        Check.due("one more", saved("abc", "abcd").difference(0), 1);
        Check.due("one fewer", saved("abcd", "abc").difference(0), 1);
        Check.due("none then", saved("", Check.letters(60)).difference(0), 60);
        Check.due("none now", saved(Check.letters(60), "").difference(0), 60);
        Check.due("the last common one, and one more", saved("abc", "abxd").difference(0), 2);
        Check.due("the last common one, and one fewer", saved("abxd", "abc").difference(0), 2);
        PricedUndo x = Check.begun("abcd");
        Check.due("erase the last one", x.erase(3, 4), 0);
        Check.due("save", x.save(1), 3);
        Check.due("take back", x.takeBack(1), 4);
        Check.due("hidden ones do not count", x.difference(1), 1);
    }

    private static void differenceAtTheLastPlaces() {
        Check.sentence("the places that both have (the last one of a full text; the last one of all characters)");
        PricedUndo x = Check.begun(Check.letters(60));
        Check.due("save", x.save(0), 60);
        Check.due("none", x.difference(0), 0);
        Check.due("begin", x.begin(), 0);
        Check.due("all", x.difference(0), 60);
        Check.due("restore", x.restore(0), 60);
        Check.due("the last one", x.character(59), 'h');
        Check.due("none", x.difference(0), 0);
        PricedUndo y = Scene.with160Characters();
        Check.due("save", y.save(1), 45);
        Check.due("none", y.difference(1), 0);
        Check.due("erase the last of all", y.erase(44, 45), 15);
        Check.due("one", y.difference(1), 1);
    }

    private static void differenceChangesNothing() {
        Check.sentence("Counts the places in which the text differs from that of a slot");
        Refusal.due("from the first", SnapshotBoundariesTest::sample, x -> x.difference(0), 0);
        Refusal.due("from the second", SnapshotBoundariesTest::sample, x -> x.difference(1), 0);
    }
}
