/** Promises 28 to 30: saving, restoring, and comparing with what was saved. */
public final class SnapshotsTest {
    private static final int INVALID = PricedUndo.INVALID_ARGUMENT;
    private static final int ILLEGAL = PricedUndo.ILLEGAL_STATE;

    public static void main(String[] args) {
        wrongSlots();
        saveAndRestore();
        basesAreSaved();
        whatIsNotSaved();
        twoSlots();
        difference();
        Check.finish();
    }

    private static void wrongSlots() {
        PricedUndo x = Check.begun("abc");
        int[] wrong = {-1, 2, Integer.MIN_VALUE, Integer.MAX_VALUE};
        for (int slot : wrong) {
            Check.due("save " + slot, x.save(slot), INVALID);
            Check.due("restore " + slot, x.restore(slot), INVALID);
            Check.due("difference " + slot, x.difference(slot), INVALID);
        }
        for (int slot = 0; slot < 2; slot++) {
            Check.due("restore nothing", x.restore(slot), ILLEGAL);
            Check.due("difference from nothing", x.difference(slot), ILLEGAL);
        }
        Check.due("text", Check.text(x), "abc");
        Check.due("save", x.save(1), 3);
        Check.due("the other one is still empty", x.restore(0), ILLEGAL);
    }

    // Promises 28 and 29
    private static void saveAndRestore() {
        PricedUndo x = Check.begun("abcdef");
        Check.insert(x, 2, "XY");
        Check.insert(x, 3, "Z");
        x.erase(0, 2);
        x.erase(4, 5);
        x.takeBack(4);
        x.setCursor(5);
        String before = Check.state(x);
        Check.due("save", x.save(0), 8);
        Check.due("save changes nothing", Check.state(x), before);
        x.takeBack(11);
        Check.insert(x, 0, "new");
        x.erase(1, 4);
        x.setCursor(0);
        Check.due("restore", x.restore(0), 8);
        Check.due("all is as it was", Check.state(x), before);
        Check.due("the text is alive", x.bringBack(4), 6);
        Check.due("text", Check.text(x), "XZYcef");
        Check.due("the slot is kept", x.restore(0), 8);
        Check.due("all is as it was", Check.state(x), before);
        x.begin();
        Check.due("restore over a new buffer", x.restore(0), 8);
        Check.due("all is as it was", Check.state(x), before);
        Check.due("the next edit", Check.insert(x, 0, "q"), 4);
        Check.due("save again", x.save(0), 9);
        x.begin();
        Check.due("restore the newer", x.restore(0), 9);
        Check.due("edits", x.count(2), 5);
    }

    private static void basesAreSaved() {
        PricedUndo x = Check.begun("ab");
        Check.insert(x, 1, "X");
        Check.insert(x, 2, "Y");
        x.erase(0, 1);
        String before = Check.state(x);
        Check.due("save", x.save(0), 3);
        Check.clip(x, "cd");
        x.begin();
        x.erase(0, 1);
        x.erase(0, 1);
        Check.insert(x, 0, "q");
        Check.due("restore over other edits", x.restore(0), 3);
        Check.due("all is as it was", Check.state(x), before);
        Check.due("what rests on the first", x.closure(0), 3);
    }

    private static void whatIsNotSaved() {
        PricedUndo x = Check.begun("abc");
        x.setPrices(2, 2);
        Check.clip(x, "12");
        x.appendScript('<');
        Check.due("save", x.save(0), 3);
        x.setPrices(3, 4);
        Check.clip(x, "3");
        x.appendScript('0');
        Check.due("restore", x.restore(0), 3);
        Check.due("prices stay", x.setPrices(3, 4), 0);
        Check.due("clip stays", x.count(5), 3);
        Check.due("script stays", x.clearScript(), 2);
    }

    private static void twoSlots() {
        PricedUndo x = Check.begun("abc");
        Check.due("save 0", x.save(0), 3);
        Check.insert(x, 0, "x");
        Check.due("save 1", x.save(1), 4);
        x.erase(0, 4);
        Check.due("restore 0", x.restore(0), 3);
        Check.due("text", Check.text(x), "abc");
        Check.due("restore 1", x.restore(1), 4);
        Check.due("text", Check.text(x), "xabc");
        Check.due("save an empty text", new PricedUndo().save(0), 0);
    }

    // Promise 30
    private static void difference() {
        PricedUndo x = Check.begun("abcdef");
        x.save(0);
        Check.due("none", x.difference(0), 0);
        Check.insert(x, 6, "gh");
        Check.due("two longer", x.difference(0), 2);
        x.save(1);
        x.takeBack(1);
        Check.due("two shorter", x.difference(1), 2);
        x.erase(0, 1);
        Check.due("shifted", x.difference(0), 6);
        Check.insert(x, 0, "q");
        Check.due("one other", x.difference(0), 1);
        Check.due("one other and two shorter", x.difference(1), 3);
        String before = Check.state(x);
        Check.due("again", x.difference(1), 3);
        Check.due("nothing changed", Check.state(x), before);
        x.begin();
        Check.due("empty", x.difference(0), 6);
        Check.clip(x, "abcdef");
        x.begin();
        Check.due("the same text in another buffer", x.difference(0), 0);
        x.begin();
        x.save(0);
        Check.clip(x, "abc");
        x.begin();
        Check.due("from the empty text", x.difference(0), 3);
    }
}
