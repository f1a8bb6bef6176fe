/** Promises 1 to 11: a new object, the clip, the buffer, and what is asked of the text. */
public final class ClipAndBufferTest {
    private static final int INVALID = PricedUndo.INVALID_ARGUMENT;
    private static final int ILLEGAL = PricedUndo.ILLEGAL_STATE;
    private static final int FULL = PricedUndo.CAPACITY_EXCEEDED;
    private static final int NONE = PricedUndo.NONE;

    public static void main(String[] args) {
        newObject();
        appendCharacter();
        clearClip();
        begin();
        beginForgetsEdits();
        insertOrder();
        insertErrors();
        insertRoom();
        erase();
        setCursor();
        cursorFollowsTheEnd();
        setPrices();
        character();
        author();
        count();
        Check.finish();
    }

    // Promise 1
    private static void newObject() {
        PricedUndo x = new PricedUndo();
        for (int what = 0; what <= 6; what++) {
            Check.due("new count " + what, x.count(what), 0);
        }
        Check.due("new character", x.character(0), NONE);
        Check.due("new loose", x.loose(), 0);
        Check.due("new setPrices(1, 1)", x.setPrices(1, 1), 0);
        Check.due("new restore(0)", x.restore(0), ILLEGAL);
        Check.due("new restore(1)", x.restore(1), ILLEGAL);
        Check.due("new clearClip", x.clearClip(), 0);
        Check.due("new clearScript", x.clearScript(), 0);
        Check.due("new runScript", x.runScript(), 0);
        Check.due("new insert into nothing", Check.insert(x, 0, "a"), 0);
    }

    // Promise 2
    private static void appendCharacter() {
        PricedUndo x = new PricedUndo();
        Check.due("append 31", x.appendCharacter(31), INVALID);
        Check.due("append 127", x.appendCharacter(127), INVALID);
        Check.due("append -1", x.appendCharacter(-1), INVALID);
        Check.due("append least", x.appendCharacter(Integer.MIN_VALUE), INVALID);
        Check.due("append greatest", x.appendCharacter(Integer.MAX_VALUE), INVALID);
        Check.due("clip after errors", x.count(5), 0);
        Check.due("append 32", x.appendCharacter(32), 1);
        Check.due("append 126", x.appendCharacter(126), 2);
        Check.clip(x, Check.letters(57));
        Check.due("append the 60th", x.appendCharacter('z'), 60);
        Check.due("append the 61st", x.appendCharacter('z'), FULL);
        Check.due("append a wrong 61st", x.appendCharacter(0), INVALID);
        Check.due("clip stays", x.count(5), 60);
        Check.due("begin with 60", x.begin(), 60);
        Check.due("text of the clip", Check.text(x), " ~" + Check.letters(57) + "z");
    }

    // Promise 3
    private static void clearClip() {
        PricedUndo x = new PricedUndo();
        Check.clip(x, "abc");
        Check.due("clearClip", x.clearClip(), 3);
        Check.due("clip is empty", x.count(5), 0);
        Check.due("clearClip again", x.clearClip(), 0);
        Check.clip(x, "d");
        Check.due("insert after clearing", x.insert(0), 0);
        Check.due("text", Check.text(x), "d");
    }

    // Promise 4
    private static void begin() {
        PricedUndo x = Check.begun("hello");
        Check.due("clip is empty", x.count(5), 0);
        Check.due("setPrices", x.setPrices(2, 3), 1);
        Check.due("setCursor", x.setCursor(4), 0);
        Check.due("insert", Check.insert(x, 2, "XY"), 0);
        Check.due("erase", x.erase(0, 1), 1);
        Check.due("save", x.save(1), 6);
        x.appendScript('<');
        Check.clip(x, "new");
        Check.due("begin", x.begin(), 3);
        Check.due("text", Check.text(x), "new");
        Check.due("all characters", x.count(1), 3);
        Check.due("edits", x.count(2), 0);
        Check.due("active edits", x.count(3), 0);
        Check.due("cursor", x.count(4), 0);
        Check.due("clip", x.count(5), 0);
        Check.due("pairs", x.count(6), 0);
        Check.due("author", x.author(0), NONE);
        Check.due("prices stay", x.setPrices(2, 3), 0);
        Check.due("script stays", x.clearScript(), 1);
        Check.due("the first edit is 0 again", x.erase(0, 1), 0);
        Check.due("it rests on none", x.edit(0, 5), 0);
        Check.due("it is an erasure", x.edit(0, 0), 1);
        Check.due("begin empty", x.begin(), 0);
        Check.due("no characters", x.count(1), 0);
        Check.due("snapshot stays", x.restore(1), 6);
        Check.due("text of the snapshot", Check.text(x), "eXYllo");
    }

    private static void beginForgetsEdits() {
        PricedUndo x = Check.begun("ab");
        Check.insert(x, 1, "X");
        Check.insert(x, 2, "Y");
        Check.due("erase", x.erase(0, 4), 2);
        Check.clip(x, "ab");
        Check.due("begin", x.begin(), 2);
        Check.due("erase where an insertion was", x.erase(0, 1), 0);
        Check.due("erase where an insertion with a base was", x.erase(0, 1), 1);
        Check.due("it is an erasure", x.edit(0, 0), 1);
        Check.due("it rests on none", x.edit(1, 5), 0);
        Check.due("none rests on the first", x.edit(0, 6), 0);
        Check.due("insert where an erasure was", Check.insert(x, 0, "X"), 2);
        Check.due("it is an insertion", x.edit(2, 0), 0);
    }

    // Promise 5
    private static void insertOrder() {
        PricedUndo x = Check.begun("abcd");
        Check.due("insert", Check.insert(x, 2, "XY"), 0);
        Check.due("clip is empty then", x.count(5), 0);
        Check.due("text", Check.text(x), "abXYcd");
        Check.due("insert at the end", Check.insert(x, 6, "!"), 1);
        Check.due("insert at the beginning", Check.insert(x, 0, "?"), 2);
        Check.due("text", Check.text(x), "?abXYcd!");
        Check.due("beginning rests on none", x.edit(2, 5), 0);
        Check.due("end rests on none", x.edit(1, 5), 0);
        Check.due("insert between", Check.insert(x, 4, "-"), 3);
        Check.due("text", Check.text(x), "?abX-Ycd!");
        Check.due("rests on the anchor's edit", x.edit(3, 5), 1);
        Check.due("insert behind the insertion", Check.insert(x, 5, "+"), 4);
        Check.due("rests on both", x.edit(4, 5), 9);

        // A hidden character stands behind the anchor: the insertion comes ahead of it.
        PricedUndo y = Check.begun("abc");
        Check.due("erase b", y.erase(1, 2), 0);
        Check.due("insert behind a", Check.insert(y, 1, "X"), 1);
        Check.due("take back", y.takeBack(1), 4);
        Check.due("text", Check.text(y), "aXbc");
        PricedUndo z = Check.begun("abc");
        Check.due("erase a", z.erase(0, 1), 0);
        Check.due("insert ahead of all", Check.insert(z, 0, "X"), 1);
        Check.due("take back", z.takeBack(1), 4);
        Check.due("text", Check.text(z), "Xabc");

        // The anchor is the visible one, so what was taken back ahead of the gap plays no part.
        PricedUndo w = Check.begun("ab");
        Check.due("insert", Check.insert(w, 1, "XY"), 0);
        Check.due("take back", w.takeBack(1), 2);
        Check.due("insert", Check.insert(w, 1, "Z"), 1);
        Check.due("rests on none", w.edit(1, 5), 0);
        Check.due("bring back", w.bringBack(1), 5);
        Check.due("text", Check.text(w), "aZXYb");
    }

    private static void insertErrors() {
        PricedUndo x = Check.begun("abcd");
        Check.due("empty clip", x.insert(0), ILLEGAL);
        Check.due("gap ahead of the state", x.insert(5), INVALID);
        Check.clip(x, Check.letters(8));
        String before = Check.state(x);
        Check.due("gap -1", x.insert(-1), INVALID);
        Check.due("gap 5", x.insert(5), INVALID);
        Check.due("least gap", x.insert(Integer.MIN_VALUE), INVALID);
        Check.due("greatest gap", x.insert(Integer.MAX_VALUE), INVALID);
        Check.due("nothing changed", Check.state(x), before);
        Check.clip(x, "i");
        Check.due("clip of 9", x.insert(4), ILLEGAL);
        Check.due("the clip stays", x.clearClip(), 9);
        Check.due("insert 8", Check.insert(x, 4, Check.letters(8)), 0);
        for (int edit = 1; edit < 16; edit++) {
            Check.due("insert " + edit, Check.insert(x, 0, "x"), edit);
        }
        Check.clip(x, "x");
        Check.due("the 17th edit", x.insert(0), FULL);
        Check.due("edits", x.count(2), 16);
        Check.due("the gap comes first", x.insert(-1), INVALID);
        x.clearClip();
        Check.due("the clip comes ahead of the room", x.insert(0), ILLEGAL);
    }

    private static void insertRoom() {
        PricedUndo x = Check.begun(Check.letters(53));
        Check.clip(x, Check.letters(8));
        Check.due("a text of 61", x.insert(0), FULL);
        Check.due("the clip stays", x.clearClip(), 8);
        Check.due("a text of 60", Check.insert(x, 53, Check.letters(7)), 0);
        Check.due("a text of 61", Check.insert(x, 60, "a"), FULL);
        x.clearClip();

        PricedUndo y = Check.begun(Check.letters(60));
        Check.due("erase all", y.erase(0, 60), 0);
        for (int edit = 1; edit <= 7; edit++) {
            Check.due("insert", Check.insert(y, 0, Check.letters(8)), edit);
        }
        Check.due("erase all again", y.erase(0, 56), 8);
        for (int edit = 9; edit <= 13; edit++) {
            Check.due("insert", Check.insert(y, 0, Check.letters(8)), edit);
        }
        Check.due("all characters", y.count(1), 156);
        Check.clip(y, Check.letters(5));
        Check.due("161 characters", y.insert(0), FULL);
        y.clearClip();
        Check.due("160 characters", Check.insert(y, 40, "wxyz"), 14);
        Check.due("all characters", y.count(1), 160);
        Check.due("the last one", y.character(43), 'z');
        Check.clip(y, "a");
        Check.due("161 characters", y.insert(0), FULL);
        Check.due("an erasure needs no room", y.erase(0, 44), 15);
        Check.due("all characters", y.count(1), 160);
    }

    // Promise 6
    private static void erase() {
        PricedUndo x = Check.begun("abcdef");
        String before = Check.state(x);
        Check.due("from -1", x.erase(-1, 2), INVALID);
        Check.due("from the length", x.erase(6, 7), INVALID);
        Check.due("from the length to it", x.erase(6, 6), INVALID);
        Check.due("empty", x.erase(2, 2), INVALID);
        Check.due("turned", x.erase(3, 1), INVALID);
        Check.due("to 7", x.erase(2, 7), INVALID);
        Check.due("greatest", x.erase(0, Integer.MAX_VALUE), INVALID);
        Check.due("least", x.erase(Integer.MIN_VALUE, 3), INVALID);
        Check.due("nothing changed", Check.state(x), before);
        Check.due("erase", x.erase(1, 3), 0);
        Check.due("text", Check.text(x), "adef");
        Check.due("all characters stay", x.count(1), 6);
        Check.clip(x, "ZZ");
        Check.due("erase the last", x.erase(3, 4), 1);
        Check.due("the clip stays", x.count(5), 2);
        Check.due("text", Check.text(x), "ade");
        Check.due("insert", x.insert(1), 2);
        Check.due("erase over the hidden ones", x.erase(0, 4), 3);
        Check.due("size", x.edit(3, 2), 4);
        Check.due("rests on the insertion, not on the erasures", x.edit(3, 5), 4);
        Check.due("text", Check.text(x), "e");

        PricedUndo y = Check.begun(Check.letters(20));
        for (int edit = 0; edit < 16; edit++) {
            Check.due("erase", y.erase(0, 1), edit);
        }
        Check.due("the 17th edit", y.erase(0, 1), FULL);
        Check.due("arguments come first", y.erase(0, 5), INVALID);
        Check.due("text", Check.text(y), "qrst");
    }

    // Promise 7
    private static void setCursor() {
        PricedUndo x = Check.begun("abcd");
        Check.due("set 4", x.setCursor(4), 0);
        Check.due("set 5", x.setCursor(5), INVALID);
        Check.due("set -1", x.setCursor(-1), INVALID);
        Check.due("set greatest", x.setCursor(Integer.MAX_VALUE), INVALID);
        Check.due("cursor", x.count(4), 4);
        Check.due("set 2", x.setCursor(2), 4);
        Check.due("set 0", x.setCursor(0), 2);
        Check.due("cursor", x.count(4), 0);
    }

    private static void cursorFollowsTheEnd() {
        PricedUndo x = Check.begun("abcd");
        x.setCursor(4);
        Check.due("insert ahead of the cursor", Check.insert(x, 0, "XY"), 0);
        Check.due("does not move it", x.count(4), 4);
        x.setCursor(6);
        Check.due("take back", x.takeBack(1), 4);
        Check.due("moves it to the end", x.count(4), 4);
        Check.due("bring back", x.bringBack(1), 6);
        Check.due("does not move it again", x.count(4), 4);
        Check.due("erase", x.erase(0, 1), 1);
        Check.due("does not move it", x.count(4), 4);
        Check.due("erase", x.erase(0, 3), 2);
        Check.due("moves it to the end", x.count(4), 2);
        Check.due("take back", x.takeBack(4), 5);
        x.setCursor(5);
        Check.due("bring the erasure back", x.bringBack(4), 2);
        Check.due("moves it to the end", x.count(4), 2);
    }

    // Promise 8
    private static void setPrices() {
        PricedUndo x = Check.begun("abcdefghijkl");
        Check.due("a -1", x.setPrices(-1, 0), INVALID);
        Check.due("a 10", x.setPrices(10, 0), INVALID);
        Check.due("b -1", x.setPrices(0, -1), INVALID);
        Check.due("b 10", x.setPrices(0, 10), INVALID);
        Check.due("at first 1 and 1", x.setPrices(1, 1), 0);
        Check.due("a alone", x.setPrices(2, 1), 1);
        Check.due("b alone", x.setPrices(2, 3), 1);
        Check.due("the same", x.setPrices(2, 3), 0);
        Check.due("turned", x.setPrices(3, 2), 1);
        Check.due("0 and 0", x.setPrices(0, 0), 1);
        Check.due("erase", x.erase(8, 9), 0);
        Check.due("erase", x.erase(0, 1), 1);
        Check.due("price 0 and 0", x.edit(0, 4), 1);
        Check.due("9 and 0", x.setPrices(9, 0), 1);
        Check.due("price 9 and 0", x.edit(0, 4), 10);
        Check.due("0 and 9", x.setPrices(0, 9), 1);
        Check.due("price 0 and 9", x.edit(0, 4), 10);
        x.setCursor(10);
        Check.due("distance 3", x.edit(0, 4), 1);
        Check.due("distance 10", x.edit(1, 4), 19);
    }

    // Promise 9
    private static void character() {
        PricedUndo x = Check.begun("a~ ");
        Check.due("place 0", x.character(0), 'a');
        Check.due("place 1", x.character(1), '~');
        Check.due("place 2", x.character(2), ' ');
        Check.due("place 3", x.character(3), NONE);
        Check.due("greatest place", x.character(Integer.MAX_VALUE), NONE);
        Check.due("place -1", x.character(-1), INVALID);
        Check.due("least place", x.character(Integer.MIN_VALUE), INVALID);
        x.erase(0, 1);
        Check.due("place 0 then", x.character(0), '~');
        Check.due("place 2 then", x.character(2), NONE);
    }

    // Promise 10
    private static void author() {
        PricedUndo x = Check.begun("ab");
        Check.insert(x, 1, "X");
        Check.insert(x, 2, "Y");
        Check.due("a", x.author(0), NONE);
        Check.due("X", x.author(1), 0);
        Check.due("Y", x.author(2), 1);
        Check.due("b", x.author(3), NONE);
        Check.due("behind all", x.author(4), INVALID);
        Check.due("place -1", x.author(-1), INVALID);
        Check.due("greatest place", x.author(Integer.MAX_VALUE), INVALID);
        PricedUndo y = Check.begun("");
        for (int edit = 0; edit < 16; edit++) {
            Check.insert(y, edit, "x");
        }
        Check.due("the last author", y.author(15), 15);
    }

    // Promise 11
    private static void count() {
        PricedUndo x = Check.begun("abcdef");
        Check.due("insert", Check.insert(x, 3, "XY"), 0);
        Check.due("insert", Check.insert(x, 4, "Z"), 1);
        Check.due("erase", x.erase(0, 2), 2);
        Check.due("erase", x.erase(2, 3), 3);
        Check.clip(x, "123");
        x.setCursor(1);
        Check.due("take back", x.takeBack(4), 8);
        Check.due("length", x.count(0), 8);
        Check.due("all", x.count(1), 9);
        Check.due("edits", x.count(2), 4);
        Check.due("active", x.count(3), 3);
        Check.due("cursor", x.count(4), 1);
        Check.due("clip", x.count(5), 3);
        // 1 rests on 0, 3 (which erased Z) on 1 and 0; 2 on none.
        Check.due("pairs", x.count(6), 3);
        Check.due("count 7", x.count(7), INVALID);
        Check.due("count -1", x.count(-1), INVALID);
    }
}
