/** Promises 12 to 21: edits, what rests on what, and sets that are taken back or brought back. */
public final class EditsTest {
    private static final int INVALID = PricedUndo.INVALID_ARGUMENT;
    private static final int ILLEGAL = PricedUndo.ILLEGAL_STATE;
    private static final int FULL = PricedUndo.CAPACITY_EXCEEDED;
    private static final int NONE = PricedUndo.NONE;

    public static void main(String[] args) {
        edit();
        placeAndPrice();
        commute();
        closure();
        price();
        takeBack();
        takeBackRoom();
        bringBack();
        bringBackRoom();
        carried();
        loose();
        opening();
        run();
        Check.finish();
    }

    // Promise 12
    private static void edit() {
        PricedUndo x = Scene.sample();
        int[][] want = {
            {0, 1, 2, 1, 5, 0, 6},
            {0, 1, 1, 2, 4, 1, 0},
            {1, 1, 2, 3, 3, 1, 0},
            {0, 1, 1, 4, 3, 0, 0},
            {1, 1, 1, 1, 1, 0, 0},
        };
        for (int edit = 0; edit < want.length; edit++) {
            for (int what = 0; what <= 6; what++) {
                Check.due("edit(" + edit + ", " + what + ")", x.edit(edit, what), want[edit][what]);
            }
        }
        Check.due("edit 5", x.edit(5, 0), INVALID);
        Check.due("edit -1", x.edit(-1, 0), INVALID);
        Check.due("edit 32", x.edit(32, 0), INVALID);
        Check.due("greatest edit", x.edit(Integer.MAX_VALUE, 0), INVALID);
        Check.due("what 7", x.edit(0, 7), INVALID);
        Check.due("what -1", x.edit(0, -1), INVALID);
        Check.due("take back", x.takeBack(4), 7);
        Check.due("not active", x.edit(2, 1), 0);
        Check.due("it has no price", x.edit(2, 4), NONE);
        Check.due("it has its place", x.edit(2, 3), 3);
        Check.due("it has its size", x.edit(2, 2), 2);
        Check.due("it rests as before", x.edit(2, 5), 1);
        Check.due("as do others on its base", x.edit(0, 6), 6);
        Check.due("one younger edit fewer", x.edit(0, 4), 4);
        Check.due("what comes with a wrong edit", x.edit(5, 4), INVALID);
        Check.due("what is wrong for one not active", x.edit(2, 7), INVALID);

        PricedUndo y = Check.begun("");
        for (int edit = 0; edit < 16; edit++) {
            Check.due("chain", Check.insert(y, edit, "x"), edit);
        }
        Check.due("the last rests on all others", y.edit(15, 5), 32767);
        Check.due("all others rest on the first", y.edit(0, 6), 65534);
        Check.due("no pair commutes", y.count(6), 0);
    }

    private static void placeAndPrice() {
        PricedUndo x = Check.begun(Check.letters(30));
        Check.due("erase", x.erase(20, 22), 0);
        Check.due("insert", Check.insert(x, 8, "XYZ"), 1);
        Check.due("place", x.edit(0, 3), 23);
        Check.due("place", x.edit(1, 3), 8);
        Check.due("take back", x.takeBack(2), 28);
        Check.due("place of one taken back", x.edit(1, 3), 8);
        Check.due("place without it", x.edit(0, 3), 20);
        Check.due("bring back", x.bringBack(2), 31);
        Check.due("setPrices", x.setPrices(3, 2), 1);
        int[][] prices = {{0, 14, 5}, {3, 14, 3}, {4, 12, 3}, {5, 12, 1}, {11, 10, 1}, {12, 8, 3}, {19, 6, 5}, {20, 4, 7},
            {26, 4, 9}, {27, 6, 9}, {31, 8, 11}};
        for (int[] row : prices) {
            x.setCursor(row[0]);
            Check.due("old one, cursor " + row[0], x.edit(0, 4), row[1]);
            Check.due("young one, cursor " + row[0], x.edit(1, 4), row[2]);
        }
        // Only active edits with a greater number make it dearer.
        x.setCursor(23);
        Check.due("two younger", Check.insert(x, 0, "q"), 2);
        Check.due("take back one of them", x.takeBack(2), 29);
        Check.due("one counts", x.edit(0, 4), 4);
    }

    // Promise 13
    private static void commute() {
        PricedUndo x = Scene.sample();
        Check.due("0 and 1", x.commute(0, 1), 0);
        Check.due("1 and 0", x.commute(1, 0), 0);
        Check.due("0 and 2", x.commute(0, 2), 0);
        Check.due("1 and 2", x.commute(1, 2), 1);
        Check.due("3 and 0", x.commute(3, 0), 1);
        Check.due("same", x.commute(1, 1), INVALID);
        Check.due("no first", x.commute(5, 1), INVALID);
        Check.due("no second", x.commute(1, 5), INVALID);
        Check.due("negative", x.commute(-1, 1), INVALID);
        Check.due("negative", x.commute(1, -1), INVALID);
        Check.due("take all back", x.takeBack(31), 4);
        Check.due("whether active plays no part", x.commute(0, 1), 0);
        Check.due("pairs", x.count(6), 8);

        // By a chain: 2 rests on 1, which rests on 0.
        PricedUndo y = Check.begun("");
        Check.insert(y, 0, "ab");
        Check.insert(y, 1, "cd");
        Check.due("erase d", y.erase(2, 3), 2);
        Check.due("a chain", y.commute(0, 2), 0);
        Check.due("its bases", y.edit(2, 5), 3);
    }

    // Promise 14
    private static void closure() {
        PricedUndo x = Scene.sample();
        Check.due("closure 0", x.closure(0), 7);
        Check.due("closure 1", x.closure(1), 2);
        Check.due("closure 2", x.closure(2), 4);
        Check.due("closure 4", x.closure(4), 16);
        Check.due("closure 5", x.closure(5), INVALID);
        Check.due("closure -1", x.closure(-1), INVALID);
        Check.due("take back", x.takeBack(2), 4);
        Check.due("only active ones", x.closure(0), 5);
        Check.due("not active", x.closure(1), ILLEGAL);
    }

    // Promise 15
    private static void price() {
        PricedUndo x = Scene.sample();
        String before = Check.state(x);
        Check.due("empty", x.price(0), 0);
        Check.due("negative", x.price(-1), INVALID);
        Check.due("least", x.price(Integer.MIN_VALUE), INVALID);
        Check.due("no such edit", x.price(32), INVALID);
        Check.due("greatest", x.price(Integer.MAX_VALUE), INVALID);
        Check.due("others rest on it", x.price(1), ILLEGAL);
        Check.due("one is missing", x.price(3), ILLEGAL);
        Check.due("another is missing", x.price(5), ILLEGAL);
        Check.due("all that rest on it", x.price(7), 12);
        Check.due("all", x.price(31), 16);
        Check.due("one", x.price(8), 3);
        Check.due("two", x.price(24), 4);
        Check.due("nothing changed", Check.state(x), before);
        Check.due("take back", x.takeBack(2), 4);
        Check.due("not active", x.price(2), ILLEGAL);
        Check.due("one not active", x.price(7), ILLEGAL);
        Check.due("what rests on it and is not active plays no part", x.price(5), 7);
        Check.due("no such edit comes first", x.price(34), INVALID);
    }

    // Promise 16
    private static void takeBack() {
        PricedUndo x = Scene.sample();
        String before = Check.state(x);
        Check.due("empty", x.takeBack(0), INVALID);
        Check.due("negative", x.takeBack(-1), INVALID);
        Check.due("no such edit", x.takeBack(32), INVALID);
        Check.due("no such edit beside others", x.takeBack(39), INVALID);
        Check.due("others rest on it", x.takeBack(1), ILLEGAL);
        Check.due("nothing changed", Check.state(x), before);
        Check.due("the erasure of b", x.takeBack(16), 6);
        Check.due("text", Check.text(x), "abXZdw");
        Check.due("again", x.takeBack(16), ILLEGAL);
        Check.due("together", x.takeBack(7), 5);
        Check.due("text", Check.text(x), "abcdw");
        Check.due("active", x.count(3), 1);
        Check.due("the last", x.takeBack(8), 4);
        Check.due("text", Check.text(x), "abcd");
        Check.due("all characters", x.count(1), 8);

        // A character that two edits erased stays hidden until both are taken back.
        PricedUndo y = Check.begun("abc");
        Check.due("erase b", y.erase(1, 2), 0);
        Check.due("take back", y.takeBack(1), 3);
        Check.due("erase ab", y.erase(0, 2), 1);
        Check.due("bring back", y.bringBack(1), 1);
        Check.due("take back the second", y.takeBack(2), 2);
        Check.due("text", Check.text(y), "ac");
    }

    private static void takeBackRoom() {
        PricedUndo x = Check.begun(Check.letters(60));
        Check.due("erase", x.erase(0, 8), 0);
        Check.due("insert", Check.insert(x, 0, "1234567"), 1);
        Check.due("a text of 67", x.takeBack(1), FULL);
        Check.due("active edits", x.count(3), 2);
        Check.due("but it has a price", x.price(1), 3);
        Check.due("and carries places", x.carried(1, 58), 66);
        Check.due("both together", x.takeBack(3), 60);
        Check.due("text", Check.text(x), Check.letters(60));

        PricedUndo y = Check.begun(Check.letters(60));
        Check.due("erase", y.erase(0, 8), 0);
        Check.due("insert", Check.insert(y, 0, "1"), 1);
        Check.due("erase", y.erase(52, 53), 2);
        Check.due("a text of just 60", y.takeBack(1), 60);
        Check.due("a text of 61", y.takeBack(4), FULL);
    }

    // Promise 17
    private static void bringBack() {
        PricedUndo x = Scene.sample();
        Check.due("all are active", x.bringBack(1), ILLEGAL);
        Check.due("take back", x.takeBack(31), 4);
        String before = Check.state(x);
        Check.due("empty", x.bringBack(0), INVALID);
        Check.due("negative", x.bringBack(-1), INVALID);
        Check.due("least", x.bringBack(Integer.MIN_VALUE), INVALID);
        Check.due("no such edit", x.bringBack(32), INVALID);
        Check.due("without its base", x.bringBack(2), ILLEGAL);
        Check.due("without its base", x.bringBack(12), ILLEGAL);
        Check.due("nothing changed", Check.state(x), before);
        Check.due("with its base", x.bringBack(5), 4);
        Check.due("text", Check.text(x), "abXd");
        Check.due("the base is active", x.bringBack(2), 5);
        Check.due("text", Check.text(x), "abXZd");
        Check.due("one is active", x.bringBack(10), ILLEGAL);
        Check.due("the rest", x.bringBack(24), 5);
        Check.due("text", Check.text(x), "aXZdw");

        // By a chain: without the middle one it cannot come back.
        PricedUndo y = Check.begun("");
        Check.insert(y, 0, "a");
        Check.insert(y, 1, "b");
        Check.insert(y, 2, "c");
        Check.due("take back", y.takeBack(7), 0);
        Check.due("a gap in the chain", y.bringBack(5), ILLEGAL);
        Check.due("the whole chain", y.bringBack(7), 3);
    }

    private static void bringBackRoom() {
        PricedUndo x = Check.begun(Check.letters(52));
        Check.due("insert", Check.insert(x, 0, "12345678"), 0);
        Check.due("take back", x.takeBack(1), 52);
        Check.due("insert", Check.insert(x, 0, "1"), 1);
        String before = Check.state(x);
        Check.due("a text of 61", x.bringBack(1), FULL);
        Check.due("nothing changed", Check.state(x), before);
        Check.due("take back", x.takeBack(2), 52);
        Check.due("a text of 60", x.bringBack(1), 60);
    }

    // Promise 18
    private static void carried() {
        PricedUndo x = Scene.sample();
        String before = Check.state(x);
        Check.due("empty set", x.carried(0, 3), 3);
        Check.due("a", x.carried(16, 0), 0);
        Check.due("X behind b", x.carried(16, 1), 2);
        Check.due("w behind Yc", x.carried(4, 4), 6);
        Check.due("Z is gone", x.carried(2, 2), NONE);
        Check.due("X is gone with all", x.carried(31, 1), NONE);
        Check.due("d in the first text", x.carried(31, 3), 3);
        Check.due("negative set", x.carried(-1, 0), INVALID);
        Check.due("no such edit", x.carried(32, 0), INVALID);
        Check.due("no such place", x.carried(0, 5), INVALID);
        Check.due("place -1", x.carried(0, -1), INVALID);
        Check.due("greatest place", x.carried(0, Integer.MAX_VALUE), INVALID);
        Check.due("not without what rests on it", x.carried(1, 0), ILLEGAL);
        Check.due("the place comes first", x.carried(1, 5), INVALID);
        Check.due("nothing changed", Check.state(x), before);
        Check.due("take back", x.takeBack(16), 6);
        Check.due("not active", x.carried(16, 0), ILLEGAL);
    }

    // Promise 19
    private static void loose() {
        PricedUndo x = Scene.sample();
        Check.due("all but 0", x.loose(), 30);
        Check.due("take back", x.takeBack(2), 4);
        Check.due("0 is not loose yet", x.loose(), 28);
        Check.due("take back", x.takeBack(4), 6);
        Check.due("0 is loose", x.loose(), 25);
        Check.due("take back", x.takeBack(25), 4);
        Check.due("none", x.loose(), 0);
    }

    // Promise 20
    private static void opening() {
        PricedUndo x = Scene.sample();
        Check.due("active", x.opening(1), ILLEGAL);
        Check.due("no such edit", x.opening(5), INVALID);
        Check.due("edit -1", x.opening(-1), INVALID);
        Check.due("take back", x.takeBack(7), 4);
        Check.due("0 alone", x.opening(0), 1);
        Check.due("1 with 0", x.opening(1), 3);
        Check.due("2 with 0", x.opening(2), 5);
        Check.due("bring back", x.bringBack(1), 6);
        Check.due("2 alone then", x.opening(2), 4);
        Check.due("0 is active", x.opening(0), ILLEGAL);
    }

    // Promise 21
    private static void run() {
        PricedUndo x = Check.begun("abcdefg");
        Check.due("insert", Check.insert(x, 2, "XXXX"), 0);
        Check.due("insert", Check.insert(x, 4, "Y"), 1);
        Check.due("erase", x.erase(0, 1), 2);
        Check.due("text", Check.text(x), "bXXYXXcdefg");
        Check.due("beginning, length", x.run(-1, 0), 5);
        Check.due("beginning, place", x.run(-1, 1), 6);
        Check.due("the first of two, length", x.run(0, 0), 2);
        Check.due("the first of two, place", x.run(0, 1), 1);
        Check.due("one, length", x.run(1, 0), 1);
        Check.due("one, place", x.run(1, 1), 3);
        Check.due("an erasure, length", x.run(2, 0), 0);
        Check.due("an erasure, place", x.run(2, 1), NONE);
        Check.due("no such edit", x.run(3, 0), INVALID);
        Check.due("author -2", x.run(-2, 0), INVALID);
        Check.due("greatest author", x.run(Integer.MAX_VALUE, 0), INVALID);
        Check.due("part 2", x.run(0, 2), INVALID);
        Check.due("part -1", x.run(0, -1), INVALID);
        Check.due("take back", x.takeBack(2), 10);
        Check.due("joined, length", x.run(0, 0), 4);
        Check.due("taken back, length", x.run(1, 0), 0);
        Check.due("taken back, place", x.run(1, 1), NONE);
        Check.due("hidden ones do not part it", x.erase(2, 4), 3);
        Check.due("length", x.run(0, 0), 2);
        Check.due("place", x.run(0, 1), 1);
        PricedUndo y = new PricedUndo();
        Check.due("empty, length", y.run(-1, 0), 0);
        Check.due("empty, place", y.run(-1, 1), NONE);
    }
}
