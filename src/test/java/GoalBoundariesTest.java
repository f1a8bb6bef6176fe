import java.util.function.Supplier;

/**
 * Promises 25 to 27 and the description of goals and clearing sets: each sentence that names a smallest or a
 * largest value, something empty or full, or a refused call, at its boundary and on both sides of it.
 */
public final class GoalBoundariesTest {
    private static final int INVALID = PricedUndo.INVALID_ARGUMENT;
    private static final int ILLEGAL = PricedUndo.ILLEGAL_STATE;
    private static final int NONE = PricedUndo.NONE;
    private static final int LEAST = Integer.MIN_VALUE;
    private static final int GREATEST = Integer.MAX_VALUE;

    public static void main(String[] args) {
        goalArguments();
        goalKinds();
        cheapestOfSeveral();
        clearingSets();
        Check.finish();
    }

    private static void goalArguments() {
        kindOutOfRange();
        valueOutOfRange();
        moreThanTwelve();
        noSet();
        orderOfCodes();
    }

    private static void goalKinds() {
        justSoMany();
        fewestCharacters();
        mostCharacters();
        moreThan60();
        notContained();
        atTheBeginning();
        noSmallerNumber();
    }

    private static void cheapestOfSeveral() {
        perhapsEmpty();
        canBeTakenBack();
        smallestPrice();
        fewestEdits();
        smallestBits();
        greatestSet();
    }

    private static void clearingSets() {
        clearingOutOfRange();
        clearingOnAnEmptyText();
        clearingAtLeastOne();
        clearingFromTheFirstToTheLast();
        clearingVisibleInsertions();
        clearingErasures();
        clearingOnlyActive();
        clearingSmallestAndGreatest();
    }

    /** Both questions about a goal: what is due of them, and that they change nothing. */
    private static void goal(String name, Supplier<PricedUndo> make, int kind, int value, int set, int price) {
        Refusal.due(name + ", cheapest", make, x -> x.cheapest(kind, value), set);
        Refusal.due(name + ", price", make, x -> x.cheapestPrice(kind, value), price);
    }

    private static void refused(String name, Supplier<PricedUndo> make, int kind, int value, int code) {
        goal(name, make, kind, value, code, code);
    }

    /** So many edits as Scene.withEdits() makes, of which these were taken back. */
    private static PricedUndo without(int edits, int set) {
        PricedUndo x = Scene.withEdits(edits);
        if (set != 0) {
            Check.due("taken back", x.takeBack(set), 4 + edits - Integer.bitCount(set));
        }
        return x;
    }

    private static PricedUndo sample() {
        return Scene.sampleWithout(0);
    }

    // ---- promises 25 and 26: arguments

    private static void kindOutOfRange() {
        Check.sentence("kind: 0 to 3; INVALID_ARGUMENT if an argument is out of range");
        for (int kind : new int[] {-1, 4, 256, LEAST, GREATEST}) {
            refused("kind " + kind, GoalBoundariesTest::sample, kind, 5, INVALID);
        }
        Check.due("kind 0", Scene.sample().cheapest(0, 5), 0);
        Check.due("kind 3", Scene.sample().cheapest(3, 0), 0);
    }

    private static void valueOutOfRange() {
        Check.sentence("value: the number of the goal, 0 to 126; INVALID_ARGUMENT if an argument is out of range");
        for (int kind = 0; kind <= 3; kind++) {
            for (int value : new int[] {-1, 127, 256, LEAST, GREATEST}) {
                refused("kind " + kind + ", value " + value, GoalBoundariesTest::sample, kind, value, INVALID);
            }
        }
        int[] atZero = {NONE, 0, NONE, 0};
        int[] at126 = {NONE, 0, NONE, 31};
        for (int kind = 0; kind <= 3; kind++) {
            Check.due("kind " + kind + ", value 0", Scene.sample().cheapest(kind, 0), atZero[kind]);
            Check.due("kind " + kind + ", value 126", Scene.sample().cheapest(kind, 126), at126[kind]);
        }
    }

    private static void moreThanTwelve() {
        Check.sentence("ILLEGAL_STATE if there are more than 12 active edits");
        for (int kind = 0; kind <= 3; kind++) {
            refused("13, kind " + kind, () -> without(13, 0), kind, 1, ILLEGAL);
        }
        refused("13 of 16", () -> without(16, 7), 0, 17, ILLEGAL);
        refused("16", () -> without(16, 0), 0, 20, ILLEGAL);
        goal("12", () -> without(12, 0), 0, 16, 0, 0);
        goal("12 of 13", () -> without(13, 1), 0, 16, 0, 0);
        goal("12 of 16", () -> without(16, 15), 0, 16, 0, 0);
        PricedUndo x = without(16, 15);
        Check.due("bring one back", x.bringBack(1), 17);
        Check.due("13 of 16", x.cheapest(0, 16), ILLEGAL);
        Check.due("take another one back", x.takeBack(1 << 15), 16);
        Check.due("12 of 16", x.cheapest(0, 16), 0);
    }

    private static void noSet() {
        Check.sentence("NONE if there is no set");
        // The sample has at least three characters, as aXd, and at most its eight.
        refused("shorter than any set makes it", GoalBoundariesTest::sample, 0, 2, NONE);
        Check.due("as short as a set makes it", Scene.sample().cheapest(0, 3), 10);
        refused("longer than any set makes it", GoalBoundariesTest::sample, 0, 9, NONE);
        Check.due("as long as a set makes it", Scene.sample().cheapest(0, 8), 20);
        refused("a character of the beginning", GoalBoundariesTest::sample, 1, 'a', NONE);
        refused("a character that is never first", GoalBoundariesTest::sample, 2, 'b', NONE);
        Check.due("of a new object", new PricedUndo().cheapest(0, 1), NONE);
        Check.due("its price", new PricedUndo().cheapestPrice(0, 1), NONE);
        for (int value = 0; value <= 126; value += 63) {
            Check.due("kind 3 always has one", Scene.sample().cheapest(3, value) >= 0 ? 1 : 0, 1);
        }
    }

    private static void orderOfCodes() {
        Check.sentence("INVALID_ARGUMENT ...; ILLEGAL_STATE ...; NONE ... (several apply)");
        refused("wrong kind and 13", () -> without(13, 0), 4, 1, INVALID);
        refused("wrong value and 13", () -> without(13, 0), 0, 127, INVALID);
        refused("13 and no set", () -> without(13, 0), 0, 3, ILLEGAL);
    }

    // ---- promises 25 and 26: kinds

    private static PricedUndo begunAndInserted(String text, int gap, String inserted) {
        PricedUndo x = Check.begun(text);
        Check.due("insert", Check.insert(x, gap, inserted), 0);
        return x;
    }

    private static void justSoMany() {
        Check.sentence("0: the text has just so many characters");
        Supplier<PricedUndo> make = () -> begunAndInserted("abc", 3, "XY");
        int[] sets = {NONE, NONE, NONE, 1, NONE, 0, NONE};
        int[] prices = {NONE, NONE, NONE, 1, NONE, 0, NONE};
        for (int length = 0; length < sets.length; length++) {
            goal("length " + length, make, 0, length, sets[length], prices[length]);
        }
    }

    private static void fewestCharacters() {
        Check.sentence("0: the text has just so many characters (none)");
        goal("a new object", PricedUndo::new, 0, 0, 0, 0);
        goal("an insertion into nothing", () -> begunAndInserted("", 0, "XY"), 0, 0, 1, 1);
        goal("an insertion into one", () -> begunAndInserted("a", 0, "XY"), 0, 0, NONE, NONE);
        goal("all was erased", () -> {
            PricedUndo x = Check.begun("ab");
            Check.due("erase", x.erase(0, 2), 0);
            return x;
        }, 0, 0, 0, 0);
    }

    /** 126 characters, of which the ten of edits 9 and 10 are visible; the erasures 0 and 8 hide all others. */
    private static PricedUndo with126() {
        PricedUndo x = Check.begun(Check.letters(60));
        Check.due("erase", x.erase(0, 60), 0);
        for (int edit = 1; edit <= 7; edit++) {
            Check.due("insert", Check.insert(x, 0, Check.letters(8)), edit);
        }
        Check.due("erase", x.erase(0, 56), 8);
        Check.due("insert", Check.insert(x, 0, Check.letters(8)), 9);
        Check.due("insert", Check.insert(x, 0, "XY"), 10);
        return x;
    }

    private static void mostCharacters() {
        Check.sentence("value: the number of the goal, 0 to 126 (the greatest length)");
        // Edit 0: ten younger ones, ten places; edit 8: two younger ones, ten places; edit 10: 1.
        goal("126", GoalBoundariesTest::with126, 0, 126, 257, 13 + 5);
        goal("125", GoalBoundariesTest::with126, 0, 125, NONE, NONE);
        goal("124", GoalBoundariesTest::with126, 0, 124, 257 + 1024, 13 + 5 + 1);
        goal("127", GoalBoundariesTest::with126, 0, 127, INVALID, INVALID);
    }

    private static PricedUndo erasedAndInserted(int inserted) {
        PricedUndo x = Check.begun(Check.letters(60));
        Check.due("erase", x.erase(0, 8), 0);
        Check.due("insert", Check.insert(x, 0, "12345678".substring(0, inserted)), 1);
        return x;
    }

    private static void moreThan60() {
        Check.sentence("(as told above; the text may have more than 60 characters then)");
        goal("60", () -> erasedAndInserted(1), 0, 60, 3, 3);
        goal("61", () -> erasedAndInserted(1), 0, 61, 1, 2);
        goal("62", () -> erasedAndInserted(1), 0, 62, NONE, NONE);
        goal("68", () -> erasedAndInserted(8), 0, 68, 1, 4);
        Check.due("it cannot be taken back for all that", erasedAndInserted(1).takeBack(1), PricedUndo.CAPACITY_EXCEEDED);
    }

    private static void notContained() {
        Check.sentence("1: the text does not contain the character with this code");
        Supplier<PricedUndo> make = () -> begunAndInserted("", 0, " ab~");
        goal("the one at the first place", make, 1, 32, 1, 1);
        goal("the one at the last place", make, 1, 126, 1, 1);
        goal("one in between", make, 1, 'b', 1, 1);
        goal("the next code", make, 1, 'c', 0, 0);
        goal("codes below 32", make, 1, 31, 0, 0);
        goal("code 0", make, 1, 0, 0, 0);
        goal("of an empty text", PricedUndo::new, 1, 'a', 0, 0);
        goal("one of two could go", () -> begunAndInserted("a", 1, "a"), 1, 'a', NONE, NONE);
        goal("a hidden one is not contained", () -> {
            PricedUndo x = begunAndInserted("a", 1, "b");
            Check.due("erase", x.erase(0, 1), 1);
            return x;
        }, 1, 'a', 0, 0);
    }

    private static void atTheBeginning() {
        Check.sentence("2: the text has the character with this code at its beginning");
        Supplier<PricedUndo> make = () -> begunAndInserted(" ~", 0, "~x");
        goal("place 0", make, 2, 126, 0, 0);
        goal("place 1", make, 2, 'x', NONE, NONE);
        goal("place 0 without the insertion", make, 2, 32, 1, 1);
        goal("code 0", make, 2, 0, NONE, NONE);
        goal("code 31", make, 2, 31, NONE, NONE);
        for (int value : new int[] {0, 32, 'a', 126}) {
            goal("an empty text has no beginning", PricedUndo::new, 2, value, NONE, NONE);
        }
        goal("an empty text by taking back", () -> begunAndInserted("", 0, "x"), 2, 'y', NONE, NONE);
        goal("a hidden beginning", () -> {
            PricedUndo x = Check.begun("ab");
            Check.due("erase", x.erase(0, 1), 0);
            return x;
        }, 2, 'a', 1, 1);
    }

    private static void noSmallerNumber() {
        Check.sentence("3: no active edit has a smaller number than this");
        // Edits 4 to 15 are active: 1, 1 for each younger one, and 1 for each 4 places.
        Supplier<PricedUndo> make = () -> without(16, 15);
        goal("0", make, 3, 0, 0, 0);
        goal("4", make, 3, 4, 0, 0);
        goal("5", make, 3, 5, 16, 1 + 11 + 2);
        goal("15", make, 3, 15, 32752, 89);
        goal("16", make, 3, 16, 65520, 90);
        goal("17", make, 3, 17, 65520, 90);
        goal("31", make, 3, 31, 65520, 90);
        goal("32", make, 3, 32, 65520, 90);
        goal("33", make, 3, 33, 65520, 90);
        goal("126", make, 3, 126, 65520, 90);
        goal("no edits at all", PricedUndo::new, 3, 126, 0, 0);
        goal("none is active", () -> without(3, 7), 3, 126, 0, 0);
    }

    // ---- promises 25 and 26: the cheapest of several

    private static void perhapsEmpty() {
        Check.sentence("The cheapest set for a goal is the set of active edits, perhaps empty");
        goal("as many as there are", GoalBoundariesTest::sample, 0, 5, 0, 0);
        goal("none of them", GoalBoundariesTest::sample, 1, 'q', 0, 0);
        goal("the beginning", GoalBoundariesTest::sample, 2, 'a', 0, 0);
        goal("none is smaller", GoalBoundariesTest::sample, 3, 0, 0, 0);
        goal("a new object", PricedUndo::new, 3, 1, 0, 0);
        PricedUndo x = Scene.sample();
        for (int i = 0; i < 2; i++) {
            Check.due("one goal behind another: the length", x.cheapest(0, 5), 0);
            Check.due("one goal behind another: none of them", x.cheapest(1, 'q'), 0);
        }
    }

    private static void canBeTakenBack() {
        Check.sentence("that can be taken back ... and by which the goal is reached then");
        // Without X alone the length would be 2, but Y rests on it.
        Supplier<PricedUndo> make = () -> {
            PricedUndo x = begunAndInserted("a", 1, "X");
            Check.due("insert behind it", Check.insert(x, 2, "Y"), 1);
            return x;
        };
        goal("one fewer", make, 0, 2, 2, 1);
        goal("no X", make, 1, 'X', 3, 3);
        goal("from 1", make, 3, 1, 3, 3);
        goal("what rests on it is not active", () -> {
            PricedUndo x = make.get();
            Check.due("take back", x.takeBack(2), 2);
            return x;
        }, 3, 1, 1, 1);
    }

    /** p and q (edits 0 and 1) at the beginning and rr (2) at place 8; only the distance from the cursor counts. */
    private static PricedUndo twoWays(int cursor) {
        PricedUndo x = Check.begun(Check.letters(12));
        x.setPrices(0, 1);
        Check.insert(x, 0, "p");
        Check.insert(x, 0, "q");
        Check.insert(x, 8, "rr");
        x.setCursor(cursor);
        return x;
    }

    private static void smallestPrice() {
        Check.sentence("with the smallest price");
        goal("two edits for 2, one for 3", () -> twoWays(0), 0, 14, 3, 2);
        goal("two edits for 3, one for 2", () -> twoWays(4), 0, 14, 4, 2);
    }

    private static void fewestEdits() {
        Check.sentence("of several, the one with the fewest edits");
        goal("two edits for 2, one with greater bits for 2", () -> twoWays(1), 0, 14, 4, 2);
        goal("two edits for 2, one with greater bits for 2", () -> twoWays(3), 0, 14, 4, 2);
    }

    private static void smallestBits() {
        Check.sentence("of several, the one with the smallest bits (bit e for edit e)");
        Supplier<PricedUndo> make = () -> {
            PricedUndo x = without(12, 0);
            x.setPrices(0, 0);
            return x;
        };
        goal("one of twelve", make, 0, 15, 1, 1);
        goal("eleven of twelve", make, 0, 5, 2047, 11);
        goal("one of the last two", () -> {
            PricedUndo x = make.get();
            Check.due("take back", x.takeBack(1023), 6);
            return x;
        }, 0, 5, 1024, 1);
    }

    private static void greatestSet() {
        Check.sentence("Goals can be asked for only if there are at most 12 active edits. (all of them, at the greatest"
            + " prices)");
        Supplier<PricedUndo> make = () -> {
            PricedUndo x = without(12, 0);
            x.setPrices(9, 9);
            x.setCursor(16);
            return x;
        };
        // 1 each, 9 for each of 66 pairs, and 9 for each whole 4 of the distances 16 to 5.
        PricedUndo asked = make.get();
        Check.due("asked for another goal ahead of it", asked.cheapest(0, 16), 0);
        Check.due("all twelve", asked.cheapest(0, 4), 4095);
        Check.due("and for the first one again", asked.cheapest(0, 16), 0);
        goal("all twelve", make, 0, 4, 4095, 12 + 9 * 66 + 9 * (4 + 4 * 3 + 4 * 2 + 3));
    }

    // ---- promise 27

    private static void clearingOutOfRange() {
        Check.sentence("from: 0 to the length of the text less 1; to: from + 1 to the length of the text;"
            + " INVALID_ARGUMENT if an argument is out of range");
        int[][] wrong = {{-1, 0}, {-1, 1}, {-1, 5}, {5, 5}, {5, 6}, {6, 5}, {0, 0}, {2, 2}, {4, 4}, {3, 2}, {1, 0}, {0, -1}, {0, 6},
            {4, 6}, {LEAST, LEAST + 1}, {LEAST, 1}, {GREATEST, LEAST}, {GREATEST, GREATEST}, {GREATEST - 1, GREATEST}, {0, GREATEST},
            {0, LEAST}, {LEAST, GREATEST}};
        for (int[] row : wrong) {
            Refusal.due("clearing " + row[0] + " " + row[1], GoalBoundariesTest::sample, x -> x.clearing(row[0], row[1]), INVALID);
        }
        Refusal.due("the whole text", GoalBoundariesTest::sample, x -> x.clearing(0, 5), 31);
        Check.due("the first place", Scene.sample().clearing(0, 1), 0);
        Check.due("the last place", Scene.sample().clearing(4, 5), 8);
        Check.due("a full text", Check.begun(Check.letters(60)).clearing(0, 60), 0);
        Check.due("one more", Check.begun(Check.letters(60)).clearing(0, 61), INVALID);
    }

    private static void clearingOnAnEmptyText() {
        Check.sentence("clearing: from: 0 to the length of the text less 1 (of an empty text: no place)");
        Check.due("0 to 0", new PricedUndo().clearing(0, 0), INVALID);
        Check.due("0 to 1", new PricedUndo().clearing(0, 1), INVALID);
        PricedUndo x = Check.begun("ab");
        Check.due("erase", x.erase(0, 2), 0);
        Check.due("hidden ones", x.clearing(0, 2), INVALID);
    }

    private static void clearingAtLeastOne() {
        Check.sentence("(the characters i to j - 1, at least one)");
        int[] due = {0, 7, 2, 0, 8};
        for (int place = 0; place < due.length; place++) {
            Check.due("place " + place + " alone", Scene.sample().clearing(place, place + 1), due[place]);
        }
    }

    private static void clearingFromTheFirstToTheLast() {
        Check.sentence("the characters from the one at the place i to the one at the place j - 1, in the order of all"
            + " characters, are looked at, also those that are not visible");
        // a b c d e, of which a, c and e were erased by edits 0, 1 and 2.
        PricedUndo x = Check.begun("abcde");
        Check.due("erase a", x.erase(0, 1), 0);
        Check.due("erase c", x.erase(1, 2), 1);
        Check.due("erase e", x.erase(2, 3), 2);
        Check.due("b alone", x.clearing(0, 1), 0);
        Check.due("d alone", x.clearing(1, 2), 0);
        Check.due("b to d", x.clearing(0, 2), 2);
    }

    private static void clearingVisibleInsertions() {
        Check.sentence("it contains the active insertions that inserted one of the visible ones of these");
        PricedUndo x = begunAndInserted("ab", 1, "XYZ");
        Check.due("erase Y", x.erase(2, 3), 1);
        Check.due("a", x.clearing(0, 1), 0);
        Check.due("a to X", x.clearing(0, 2), 3);
        Check.due("b", x.clearing(3, 4), 0);
        Check.due("erase X and Z", x.erase(1, 3), 2);
        // The insertion shows nothing now, so only its erasures count.
        Check.due("a to b", x.clearing(0, 2), 6);
    }

    private static void clearingErasures() {
        Check.sentence("the active erasures that erased any of these (visible or not)");
        PricedUndo x = Check.begun("abcd");
        Check.due("erase bc", x.erase(1, 3), 0);
        Check.due("around them", x.clearing(0, 2), 1);
        Check.due("ahead of them", x.clearing(0, 1), 0);
        Check.due("behind them", x.clearing(1, 2), 0);
        Check.due("insert between b and c when they show", x.takeBack(1), 4);
        Check.due("insert", Check.insert(x, 2, "X"), 1);
        Check.due("erased again", x.bringBack(1), 3);
        Check.due("a to X: b is between", x.clearing(0, 2), 3);
        Check.due("X alone", x.clearing(1, 2), 2);
        Check.due("X to d: c is between", x.clearing(1, 3), 3);
    }

    private static void clearingOnlyActive() {
        Check.sentence("and all active edits that rest on one of these edits");
        PricedUndo x = begunAndInserted("ab", 1, "XY");
        Check.due("insert behind X", Check.insert(x, 2, "Z"), 1);
        Check.due("erase Z", x.erase(2, 3), 2);
        Check.due("X: what rests on what rests on it", x.clearing(1, 2), 7);
        Check.due("take the erasure back", x.takeBack(4), 5);
        Check.due("X: the active ones", x.clearing(1, 2), 3);
        Check.due("take Z back", x.takeBack(2), 4);
        Check.due("X: alone", x.clearing(1, 2), 1);
        Check.due("take all back", x.takeBack(1), 2);
        Check.due("ab", x.clearing(0, 2), 0);
    }

    private static void clearingSmallestAndGreatest() {
        Check.sentence("clearing: Returns the set (as bits) (smallest and greatest)");
        Check.due("no edits", Check.begun("a").clearing(0, 1), 0);
        Check.due("all 16, which need not be 12 at most", Scene.withEdits(16).clearing(0, 16), 65535);
        Check.due("all 16 by the first one", Scene.chainOf16().clearing(0, 1), 65535);
        Check.due("the last one", Scene.chainOf16().clearing(15, 16), 1 << 15);
    }
}
