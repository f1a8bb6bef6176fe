/** Promises 25 to 27: the cheapest set for a goal, its price, and the clearing set of a stretch. */
public final class GoalsTest {
    private static final int INVALID = PricedUndo.INVALID_ARGUMENT;
    private static final int ILLEGAL = PricedUndo.ILLEGAL_STATE;
    private static final int NONE = PricedUndo.NONE;

    public static void main(String[] args) {
        wrongArguments();
        lengthGoal();
        withoutGoal();
        beginsGoal();
        oldEditsGoal();
        cheaperBeatsFewer();
        fewerBeatsSmaller();
        smallerBits();
        longTextIsAllowed();
        atMostTwelve();
        clearing();
        clearingHidden();
        Check.finish();
    }

    // Promises 25 and 26
    private static void goal(String name, PricedUndo x, int kind, int value, int set, int price) {
        Check.due(name + ", cheapest", x.cheapest(kind, value), set);
        Check.due(name + ", price", x.cheapestPrice(kind, value), price);
    }

    private static void wrongArguments() {
        PricedUndo x = Check.begun("abc");
        goal("kind -1", x, -1, 0, INVALID, INVALID);
        goal("kind 4", x, 4, 0, INVALID, INVALID);
        goal("value -1", x, 0, -1, INVALID, INVALID);
        goal("value 127", x, 0, 127, INVALID, INVALID);
        goal("value 126", x, 0, 126, NONE, NONE);
        goal("greatest", x, Integer.MAX_VALUE, Integer.MAX_VALUE, INVALID, INVALID);
        goal("kind 3, value 126", x, 3, 126, 0, 0);
    }

    private static void lengthGoal() {
        PricedUndo x = Check.begun("abcdef");
        Check.insert(x, 6, "xx");
        Check.insert(x, 0, "yyy");
        x.erase(3, 4);
        goal("as it is", x, 0, 10, 0, 0);
        goal("without yyy, with a, cheaper than without xx", x, 0, 8, 6, 3);
        goal("without yyy", x, 0, 7, 2, 2);
        goal("with a", x, 0, 11, 4, 1);
        goal("without xx, with a", x, 0, 9, 5, 6);
        goal("as it was", x, 0, 6, 7, 8);
        goal("not to be had", x, 0, 4, NONE, NONE);
        goal("0", x, 0, 0, NONE, NONE);
        PricedUndo y = new PricedUndo();
        goal("empty", y, 0, 0, 0, 0);
        goal("empty, 1", y, 0, 1, NONE, NONE);
    }

    private static void withoutGoal() {
        PricedUndo x = Check.begun("abc");
        Check.insert(x, 1, "xb");
        Check.insert(x, 2, "z");
        x.erase(4, 5);
        Check.due("text", Check.text(x), "axzbc");
        goal("no x: with what rests on it", x, 1, 'x', 3, 5);
        goal("no z", x, 1, 'z', 2, 2);
        goal("no b: the erasure of the other one stays", x, 1, 'b', 3, 5);
        goal("no a", x, 1, 'a', NONE, NONE);
        goal("no q", x, 1, 'q', 0, 0);
        goal("no 0", x, 1, 0, 0, 0);
    }

    private static void beginsGoal() {
        PricedUndo x = Check.begun("abc");
        x.erase(0, 1);
        Check.insert(x, 0, "x");
        Check.insert(x, 0, "y");
        goal("y", x, 2, 'y', 0, 0);
        goal("x", x, 2, 'x', 4, 1);
        goal("a", x, 2, 'a', 7, 6);
        goal("b", x, 2, 'b', 6, 3);
        goal("c", x, 2, 'c', NONE, NONE);
        PricedUndo y = Check.begun("");
        goal("empty text", y, 2, 0, NONE, NONE);
        Check.insert(y, 0, "qr");
        goal("r", y, 2, 'r', NONE, NONE);
        y.erase(0, 1);
        goal("r then", y, 2, 'r', 0, 0);
        goal("q then", y, 2, 'q', 2, 1);
    }

    private static void oldEditsGoal() {
        PricedUndo x = Check.begun("abc");
        Check.insert(x, 1, "x");
        Check.insert(x, 0, "y");
        Check.insert(x, 3, "z");
        goal("from 0", x, 3, 0, 0, 0);
        goal("from 1, with what rests on it", x, 3, 1, 5, 4);
        goal("from 2", x, 3, 2, 7, 6);
        goal("from 3", x, 3, 3, 7, 6);
        goal("from 16", x, 3, 16, 7, 6);
        goal("from 32", x, 3, 32, 7, 6);
        goal("from 100", x, 3, 100, 7, 6);
        x.takeBack(5);
        goal("those taken back play no part", x, 3, 1, 0, 0);
        goal("only the active one", x, 3, 2, 2, 1);
    }

    private static void cheaperBeatsFewer() {
        PricedUndo x = Check.begun(Check.letters(40));
        x.setPrices(0, 9);
        Check.insert(x, 40, "xy");
        Check.insert(x, 0, "z");
        Check.insert(x, 0, "w");
        // Far from the cursor edit 0 costs 91; the two near ones cost 1 each.
        goal("two for less", x, 0, 42, 6, 2);
        x.setCursor(44);
        goal("one for less", x, 0, 42, 1, 1);
    }

    private static void fewerBeatsSmaller() {
        PricedUndo x = Check.begun("abcd");
        x.setPrices(1, 0);
        Check.insert(x, 0, "pp");
        Check.insert(x, 4, "q");
        Check.insert(x, 0, "r");
        // Prices 3, 2, 1. Length 6: {0} for 3, {1, 2} for 3.
        goal("fewer edits", x, 0, 6, 1, 3);
        fewerThoughGreaterBits();
    }

    private static void fewerThoughGreaterBits() {
        PricedUndo x = Check.begun(Check.letters(12));
        x.setPrices(0, 1);
        Check.insert(x, 0, "p");
        Check.insert(x, 0, "q");
        Check.insert(x, 8, "rr");
        x.setCursor(3);
        // Prices 1, 1 and, five places away, 2: {0, 1} has the smaller bits, {2} the fewer edits.
        Check.due("price of r", x.edit(2, 4), 2);
        Check.due("price of p and q", x.price(3), 2);
        goal("fewer with greater bits", x, 0, 14, 4, 2);
    }

    private static void smallerBits() {
        PricedUndo x = Check.begun("abcd");
        x.setPrices(0, 0);
        for (int i = 0; i < 5; i++) {
            Check.insert(x, 4, "p");
        }
        goal("one of five", x, 0, 8, 1, 1);
        goal("three of five", x, 0, 6, 7, 3);
        x.takeBack(2);
        goal("two of four", x, 0, 6, 5, 2);
    }

    private static void longTextIsAllowed() {
        PricedUndo x = Check.begun(Check.letters(60));
        x.erase(0, 8);
        Check.insert(x, 0, "ABCDEFGH");
        goal("68 characters", x, 0, 68, 1, 4);
        goal("as it was", x, 2, 'a', 3, 5);
        goal("60 characters", x, 0, 60, 0, 0);
    }

    private static void atMostTwelve() {
        PricedUndo x = Check.begun("a");
        for (int i = 0; i < 12; i++) {
            Check.insert(x, 1, "b");
        }
        x.setPrices(0, 0);
        goal("twelve", x, 0, 1, 4095, 12);
        goal("six", x, 0, 7, 63, 6);
        Check.insert(x, 1, "b");
        goal("thirteen", x, 0, 13, ILLEGAL, ILLEGAL);
        goal("wrong arguments come first", x, 4, 13, INVALID, INVALID);
        x.takeBack(1);
        goal("twelve of thirteen", x, 0, 12, 2, 1);
        goal("all twelve", x, 1, 'b', 8190, 12);
        for (int i = 13; i < 16; i++) {
            Check.insert(x, 1, "c");
        }
        x.takeBack(14);
        goal("twelve of sixteen", x, 0, 1, 65520, 12);
    }

    // Promise 27
    private static void clearing() {
        PricedUndo x = Check.begun("abcd");
        Check.insert(x, 2, "XY");
        Check.insert(x, 3, "Z");
        x.erase(5, 6);
        Check.due("text", Check.text(x), "abXZYd");
        String before = Check.state(x);
        Check.due("ab", x.clearing(0, 2), 0);
        Check.due("X with Z", x.clearing(2, 3), 3);
        Check.due("Z", x.clearing(3, 4), 2);
        Check.due("Y with Z", x.clearing(4, 5), 3);
        Check.due("Y to d over c", x.clearing(4, 6), 7);
        Check.due("d", x.clearing(5, 6), 0);
        Check.due("all", x.clearing(0, 6), 7);
        Check.due("from -1", x.clearing(-1, 1), INVALID);
        Check.due("from 6", x.clearing(6, 7), INVALID);
        Check.due("empty", x.clearing(2, 2), INVALID);
        Check.due("turned", x.clearing(3, 2), INVALID);
        Check.due("to 7", x.clearing(0, 7), INVALID);
        Check.due("least", x.clearing(Integer.MIN_VALUE, Integer.MAX_VALUE), INVALID);
        Check.due("nothing changed", Check.state(x), before);
    }

    private static void clearingHidden() {
        PricedUndo x = Check.begun("abcd");
        Check.insert(x, 2, "XY");
        x.erase(2, 4);
        Check.due("text", Check.text(x), "abcd");
        // XY are not visible, so their insertion does not count, but their erasure does.
        Check.due("b to c", x.clearing(1, 3), 2);
        Check.due("take back", x.takeBack(2), 6);
        Check.due("the erasure is not active", x.clearing(1, 5), 1);
        Check.due("a alone", x.clearing(0, 1), 0);
        Check.due("take back", x.takeBack(1), 4);
        Check.due("nothing is active", x.clearing(0, 4), 0);

        // By a chain: what rests on what rests on X.
        PricedUndo y = Check.begun("ab");
        Check.insert(y, 1, "X");
        Check.insert(y, 2, "Y");
        y.erase(2, 3);
        Check.due("X", y.clearing(1, 2), 7);
        y.takeBack(4);
        Check.due("only active ones", y.clearing(1, 2), 3);
    }
}
