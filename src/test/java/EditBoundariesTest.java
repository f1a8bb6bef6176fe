import java.util.function.IntFunction;
import java.util.function.Supplier;
import java.util.function.ToIntFunction;

/**
 * Promises 12 to 21 and the description of the edits: each sentence that names a smallest or a largest value,
 * something empty or full, or a refused call, at its boundary and on both sides of it.
 */
public final class EditBoundariesTest {
    private static final int INVALID = PricedUndo.INVALID_ARGUMENT;
    private static final int ILLEGAL = PricedUndo.ILLEGAL_STATE;
    private static final int FULL = PricedUndo.CAPACITY_EXCEEDED;
    private static final int NONE = PricedUndo.NONE;
    private static final int LEAST = Integer.MIN_VALUE;
    private static final int GREATEST = Integer.MAX_VALUE;
    /** Negative, or with an edit beside the five of the sample. */
    private static final int[] WRONG_SETS = {-1, LEAST, LEAST + 1, 32, 33, 65536, 1 << 30, GREATEST};

    public static void main(String[] args) {
        properties();
        pairsAndClosures();
        prices();
        takingBack();
        bringingBack();
        carrying();
        looseAndOpening();
        runs();
        Check.finish();
    }

    private static void properties() {
        editOutOfRange();
        whatOutOfRange();
        placeOfAnEdit();
        wholeFours();
        onlyGreaterNumbers();
        dearestEdit();
        noPriceIfNotActive();
    }

    private static void pairsAndClosures() {
        commuteWithoutSuchAnEdit();
        commuteWithItself();
        commuteOfAll();
        closureWithoutSuchAnEdit();
        closureNotActive();
        closureSmallestAndGreatest();
    }

    private static void prices() {
        priceOfNoSet();
        priceNotActive();
        priceNotToBeTakenBack();
        priceOfTheEmptySet();
        priceByTheStateBefore();
        priceOfAll();
        priceOrderOfCodes();
    }

    private static void takingBack() {
        takeBackNoSet();
        takeBackNotActive();
        takeBackWithoutWhatRests();
        takeBackBeyond60();
        takeBackAll();
        takeBackOrderOfCodes();
    }

    private static void bringingBack() {
        bringBackNoSet();
        bringBackActive();
        bringBackWithoutItsBase();
        bringBackBeyond60();
        bringBackAll();
        bringBackOrderOfCodes();
    }

    private static void carrying() {
        carriedByNoSet();
        carriedFromNoPlace();
        carriedByASetThatCannot();
        carriedToNone();
        carriedByTheEmptySet();
        carriedBeyond60();
        carriedOrderOfCodes();
    }

    private static void looseAndOpening() {
        looseSmallestAndGreatest();
        openingWithoutSuchAnEdit();
        openingActive();
        openingSmallestAndGreatest();
    }

    private static void runs() {
        runWithoutSuchAnEdit();
        runPartOutOfRange();
        runNone();
        runFirstOfSeveral();
        runGreatest();
    }

    /** A call with a number of an edit is refused for those that the sample, or a new object, doesn't have. */
    private static void refusedWithoutSuchAnEdit(String name, IntFunction<ToIntFunction<PricedUndo>> call) {
        for (int edit : new int[] {-1, 5, 15, 16, 31, 32, 37, LEAST, GREATEST}) {
            Refusal.due(name + " " + edit, () -> Scene.sampleWithout(16), call.apply(edit), INVALID);
        }
        Check.due(name + " of a new object", call.apply(0).applyAsInt(new PricedUndo()), INVALID);
        Check.due(name + " 16 of 16", call.apply(16).applyAsInt(Scene.withEdits(16)), INVALID);
    }

    private static void refusedSets(String name, int takenBack, IntFunction<ToIntFunction<PricedUndo>> call) {
        for (int set : WRONG_SETS) {
            Refusal.due(name + " " + set, () -> Scene.sampleWithout(takenBack), call.apply(set), INVALID);
        }
        Check.due(name + " of a new object", call.apply(1).applyAsInt(new PricedUndo()), INVALID);
        Check.due(name + " a 17th of 16", call.apply(65536).applyAsInt(Scene.withEdits(16)), INVALID);
    }

    // ---- promise 12

    private static void editOutOfRange() {
        Check.sentence("edit: INVALID_ARGUMENT if there is no such edit");
        for (int what : new int[] {0, 4, 6, 7}) {
            refusedWithoutSuchAnEdit("property " + what + " of edit", edit -> x -> x.edit(edit, what));
        }
        PricedUndo x = Scene.withEdits(16);
        Check.due("edit 0", x.edit(0, 2), 1);
        Check.due("edit 15", x.edit(15, 2), 1);
    }

    private static void whatOutOfRange() {
        Check.sentence("edit: INVALID_ARGUMENT if what is out of range");
        for (int what : new int[] {-1, 7, LEAST, GREATEST}) {
            for (int edit : new int[] {0, 4}) {
                Refusal.due("edit " + edit + " " + what, () -> Scene.sampleWithout(16), x -> x.edit(edit, what), INVALID);
            }
        }
        PricedUndo x = Scene.sample();
        Check.due("what 0", x.edit(4, 0), 1);
        Check.due("what 6", x.edit(0, 6), 6);
    }

    private static void placeOfAnEdit() {
        Check.sentence("The place of an edit is the number of visible characters ahead of its first character");
        PricedUndo x = Check.begun("ab");
        Check.insert(x, 0, "c");
        Check.insert(x, 3, "d");
        Check.due("ahead of all", x.edit(0, 3), 0);
        Check.due("behind all", x.edit(1, 3), 3);
        Check.due("erase all", x.erase(0, 4), 2);
        for (int edit = 0; edit < 3; edit++) {
            Check.due("in an empty text", x.edit(edit, 3), 0);
        }
        PricedUndo y = Check.begun(Check.letters(60));
        Check.due("erase the last one", y.erase(59, 60), 0);
        Check.due("insert ahead of all", Check.insert(y, 0, "X"), 1);
        Check.due("behind a full text", y.edit(0, 3), 60);
    }

    private static void wholeFours() {
        Check.sentence("plus B for each 4 whole characters between the place of the edit and the cursor (the absolute"
            + " difference, divided by 4, rounded down)");
        PricedUndo x = Check.begun(Check.letters(20));
        Check.due("insert", Check.insert(x, 10, "X"), 0);
        x.setPrices(0, 9);
        int[][] prices = {{10, 1}, {11, 1}, {13, 1}, {14, 10}, {17, 10}, {18, 19}, {21, 19},
            {9, 1}, {7, 1}, {6, 10}, {3, 10}, {2, 19}, {0, 19}};
        for (int[] row : prices) {
            x.setCursor(row[0]);
            Check.due("cursor " + row[0], x.edit(0, 4), row[1]);
        }
    }

    private static void onlyGreaterNumbers() {
        Check.sentence("1 plus A for each active edit with a greater number");
        PricedUndo x = Scene.withEdits(16);
        x.setPrices(9, 0);
        Check.due("the first one", x.edit(0, 4), 136);
        Check.due("the last but one", x.edit(14, 4), 10);
        Check.due("the last one", x.edit(15, 4), 1);
        Check.due("the last but one is taken back", x.takeBack(1 << 14), 19);
        Check.due("the first one", x.edit(0, 4), 127);
        Check.due("the last one", x.edit(15, 4), 1);
        Check.due("the one ahead of it", x.edit(13, 4), 10);
        x.setPrices(0, 0);
        Check.due("the first one for nothing", x.edit(0, 4), 1);
    }

    /** The last of 60 characters erased by edit 0, then insertions and erasures at the beginning by turns. */
    private static PricedUndo dearest() {
        PricedUndo x = Check.begun(Check.letters(60));
        x.setPrices(9, 9);
        Check.due("erase the last one", x.erase(59, 60), 0);
        for (int edit = 1; edit < 16; edit++) {
            Check.due("edit " + edit, edit % 2 == 1 ? Check.insert(x, 0, "X") : x.erase(0, 1), edit);
        }
        Check.due("length", x.count(0), 60);
        return x;
    }

    private static void dearestEdit() {
        Check.sentence("The price of taking back an active edit (the greatest that there is)");
        // 15 active edits with a greater number, and 60 characters up to the cursor, which are 15 times 4.
        Check.due("price", dearest().edit(0, 4), 1 + 9 * 15 + 9 * 15);
        Check.due("price of the set", dearest().price(1), 1 + 9 * 15 + 9 * 15);
    }

    private static void noPriceIfNotActive() {
        Check.sentence("NONE for 4 if it is not active");
        Refusal.due("not active", () -> Scene.sampleWithout(16), x -> x.edit(4, 4), NONE);
        PricedUndo x = Scene.sampleWithout(16);
        int[] due = {1, 0, 1, 1, NONE, 0, 0};
        for (int what = 0; what <= 6; what++) {
            Check.due("property " + what + " of one not active", x.edit(4, what), due[what]);
        }
        Check.due("an active one", x.edit(3, 1), 1);
        Check.due("its price", x.edit(3, 4) > 0 ? 1 : 0, 1);
        Check.due("what is out of range first", x.edit(4, 7), INVALID);
        Check.due("no such edit", x.edit(5, 4), INVALID);
        x.bringBack(16);
        Check.due("active again", x.edit(4, 4), 1);
    }

    // ---- promises 13 and 14

    private static void commuteWithoutSuchAnEdit() {
        Check.sentence("commute: INVALID_ARGUMENT if there is no such edit");
        refusedWithoutSuchAnEdit("the first", edit -> x -> x.commute(edit, 0));
        refusedWithoutSuchAnEdit("the second", edit -> x -> x.commute(0, edit));
        refusedWithoutSuchAnEdit("both", edit -> x -> x.commute(edit, edit));
        Check.due("the first and the last", Scene.withEdits(16).commute(0, 15), 1);
        Check.due("the last and the first", Scene.withEdits(16).commute(15, 0), 1);
    }

    private static void commuteWithItself() {
        Check.sentence("commute: INVALID_ARGUMENT if both are the same");
        for (int edit = 0; edit < 5; edit++) {
            int same = edit;
            Refusal.due("both " + edit, () -> Scene.sampleWithout(16), x -> x.commute(same, same), INVALID);
        }
    }

    private static void commuteOfAll() {
        Check.sentence("Two different edits commute if neither rests on the other one.");
        PricedUndo x = Scene.sample();
        int[] onFirst = {-1, 0, 0, 1, 1};
        for (int edit = 1; edit < 5; edit++) {
            Check.due("0 and " + edit, x.commute(0, edit), onFirst[edit]);
            Check.due(edit + " and 0", x.commute(edit, 0), onFirst[edit]);
        }
        Check.due("two that rest on the same one", x.commute(1, 2), 1);
        PricedUndo y = Scene.chainOf16();
        Check.due("the ends of a chain", y.commute(0, 15), 0);
        Check.due("the ends of a chain, turned", y.commute(15, 0), 0);
    }

    private static void closureWithoutSuchAnEdit() {
        Check.sentence("closure: INVALID_ARGUMENT if there is no such edit");
        refusedWithoutSuchAnEdit("closure", edit -> x -> x.closure(edit));
    }

    private static void closureNotActive() {
        Check.sentence("closure: ILLEGAL_STATE if it is not active");
        Refusal.due("not active", () -> Scene.sampleWithout(16), x -> x.closure(4), ILLEGAL);
        PricedUndo x = Scene.sampleWithout(16);
        Check.due("active", x.closure(3), 8);
        x.bringBack(16);
        Check.due("active again", x.closure(4), 16);
    }

    private static void closureSmallestAndGreatest() {
        Check.sentence("Returns the smallest set of active edits that can be taken back and contains an edit.");
        PricedUndo x = Scene.chainOf16();
        Check.due("all", x.closure(0), 65535);
        Check.due("the last two", x.closure(14), 3 << 14);
        Check.due("the last alone", x.closure(15), 1 << 15);
        Check.due("take it back", x.takeBack(1 << 15), 15);
        Check.due("the others", x.closure(0), 32767);
        Check.due("the last but one alone", x.closure(14), 1 << 14);
    }

    // ---- promise 15

    private static void priceOfNoSet() {
        Check.sentence("price: INVALID_ARGUMENT if it is negative or contains an edit that does not exist");
        refusedSets("price", 0, set -> x -> x.price(set));
        // 1 each, 1 for each of 120 pairs, and for the places 0 to 15 four times 0, 1, 2 and 3.
        Check.due("the greatest set", Scene.withEdits(16).price(65535), 16 + 120 + 24);
    }

    private static void priceNotActive() {
        Check.sentence("price: ILLEGAL_STATE if it contains an edit that is not active");
        for (int set : new int[] {16, 24, 31}) {
            Refusal.due("price " + set, () -> Scene.sampleWithout(16), x -> x.price(set), ILLEGAL);
        }
        Check.due("all active ones", Scene.sampleWithout(16).price(15) > 0 ? 1 : 0, 1);
    }

    private static void priceNotToBeTakenBack() {
        Check.sentence("price: ILLEGAL_STATE if it cannot be taken back");
        for (int set : new int[] {1, 3, 5, 1 + 8, 1 + 2 + 8 + 16}) {
            Refusal.due("price " + set, () -> Scene.sampleWithout(0), x -> x.price(set), ILLEGAL);
        }
        Check.due("with all that rest on it", Scene.sample().price(7), 12);
        Check.due("what rests on it is not active", Scene.sampleWithout(6).price(1) > 0 ? 1 : 0, 1);
    }

    private static void priceOfTheEmptySet() {
        Check.sentence("The price of a set is the sum of the prices of its edits (of the empty set)");
        Check.due("of a new object", new PricedUndo().price(0), 0);
        Refusal.due("of the sample", () -> Scene.sampleWithout(0), x -> x.price(0), 0);
        Check.due("with no active edit", Scene.sampleWithout(31).price(0), 0);
    }

    private static void priceByTheStateBefore() {
        Check.sentence("all by the state before any of them is taken back");
        // Edit 1 stands four places behind edit 0's eight characters, and is younger.
        PricedUndo x = Check.begun("abcd");
        Check.insert(x, 0, "12345678");
        Check.insert(x, 12, "X");
        x.setPrices(5, 2);
        Check.due("edit 0", x.price(1), 6);
        Check.due("edit 1", x.price(2), 7);
        Check.due("both", x.price(3), 13);
        Check.due("taken back", x.takeBack(1), 5);
        Check.due("edit 1 then", x.price(2), 3);
    }

    private static void priceOfAll() {
        Check.sentence("The price of a set is the sum of the prices of its edits (the greatest set)");
        // Edit 0 as above; the others are near the cursor: 15 times 1, and 9 for each of 105 pairs of them.
        Check.due("all", dearest().price(65535), 271 + 15 + 9 * 105);
    }

    private static void priceOrderOfCodes() {
        Check.sentence("price: INVALID_ARGUMENT ...; ILLEGAL_STATE ... (both apply)");
        Refusal.due("no such edit, and one not active", () -> Scene.sampleWithout(16), x -> x.price(48), INVALID);
        Refusal.due("no such edit, and one that others rest on", () -> Scene.sampleWithout(0), x -> x.price(33), INVALID);
    }

    // ---- promise 16

    private static void takeBackNoSet() {
        Check.sentence("takeBack: INVALID_ARGUMENT if it is 0 or negative or contains an edit that does not exist");
        refusedSets("takeBack", 0, set -> x -> x.takeBack(set));
        Refusal.due("takeBack 0", () -> Scene.sampleWithout(0), x -> x.takeBack(0), INVALID);
        Check.due("takeBack 0 of a new object", new PricedUndo().takeBack(0), INVALID);
    }

    private static void takeBackNotActive() {
        Check.sentence("takeBack: ILLEGAL_STATE if it contains an edit that is not active");
        for (int set : new int[] {16, 24, 31}) {
            Refusal.due("takeBack " + set, () -> Scene.sampleWithout(16), x -> x.takeBack(set), ILLEGAL);
        }
        Check.due("the active one alone", Scene.sampleWithout(16).takeBack(8), 5);
    }

    private static void takeBackWithoutWhatRests() {
        Check.sentence("takeBack: ILLEGAL_STATE if it cannot be taken back");
        for (int set : new int[] {1, 3, 5, 1 + 8}) {
            Refusal.due("takeBack " + set, () -> Scene.sampleWithout(0), x -> x.takeBack(set), ILLEGAL);
        }
        Refusal.due("a chain without its end", Scene::chainOf16, x -> x.takeBack(32767), ILLEGAL);
        Check.due("a chain but for its beginning", Scene.chainOf16().takeBack(65534), 1);
        Check.due("with all that rest on it", Scene.sample().takeBack(7), 4);
        Check.due("what rests on it is not active", Scene.sampleWithout(6).takeBack(1), 4);
    }

    /** 60 letters of which the first eight were erased (edit 0), then so many were inserted (1), ahead of all. */
    private static PricedUndo erasedAndInserted(int inserted) {
        PricedUndo x = Check.begun(Check.letters(60));
        Check.due("erase", x.erase(0, 8), 0);
        Check.due("insert", Check.insert(x, 0, "12345678".substring(0, inserted)), 1);
        return x;
    }

    private static void takeBackBeyond60() {
        Check.sentence("takeBack: CAPACITY_EXCEEDED if the text would have more than 60 characters");
        for (int inserted = 1; inserted <= 8; inserted += 7) {
            int size = inserted;
            Refusal.due("60 and " + size, () -> Scene.surrounded(erasedAndInserted(size)), x -> x.takeBack(1), FULL);
            Check.due("both make just 60", erasedAndInserted(size).takeBack(3), 60);
        }
        PricedUndo x = erasedAndInserted(1);
        Check.due("one of the last is erased", x.erase(52, 53), 2);
        Check.due("just 60", x.takeBack(1), 60);
        Check.due("61", x.takeBack(4), FULL);
        Check.due("length", x.count(0), 60);
    }

    private static void takeBackAll() {
        Check.sentence("takeBack: Returns the length of the text then (smallest and greatest)");
        Check.due("nothing is left", Scene.chainOf16().takeBack(65535), 0);
        PricedUndo x = dearest();
        Check.due("60 are left", x.takeBack(65535), 60);
        Check.due("text", Check.text(x), Check.letters(60));
        Check.due("active edits", x.count(3), 0);
    }

    private static void takeBackOrderOfCodes() {
        Check.sentence("takeBack: INVALID_ARGUMENT ...; ILLEGAL_STATE ...; CAPACITY_EXCEEDED ... (several apply)");
        // Seven more rest on the one that was inserted first.
        Supplier<PricedUndo> make = () -> {
            PricedUndo x = erasedAndInserted(1);
            Check.due("insert behind it", Check.insert(x, 1, "2345678"), 2);
            return Scene.surrounded(x);
        };
        Refusal.due("another rests on it, and 67", make, x -> x.takeBack(3), ILLEGAL);
        Refusal.due("no such edit, and 68", make, x -> x.takeBack(9), INVALID);
        Refusal.due("no such edit, and another rests on it", make, x -> x.takeBack(10), INVALID);
        Refusal.due("68", make, x -> x.takeBack(1), FULL);
        Refusal.due("one not active, and 61", () -> {
            PricedUndo x = erasedAndInserted(1);
            Check.due("insert", Check.insert(x, 0, "X"), 2);
            Check.due("take it back", x.takeBack(4), 53);
            return Scene.surrounded(x);
        }, x -> x.takeBack(5), ILLEGAL);
    }

    // ---- promise 17

    private static void bringBackNoSet() {
        Check.sentence("bringBack: INVALID_ARGUMENT if it is 0 or negative or contains an edit that does not exist");
        refusedSets("bringBack", 31, set -> x -> x.bringBack(set));
        Refusal.due("bringBack 0", () -> Scene.sampleWithout(31), x -> x.bringBack(0), INVALID);
        Check.due("bringBack 0 of a new object", new PricedUndo().bringBack(0), INVALID);
    }

    private static void bringBackActive() {
        Check.sentence("bringBack: ILLEGAL_STATE if it contains an active edit");
        for (int set : new int[] {8, 24, 31}) {
            Refusal.due("bringBack " + set, () -> Scene.sampleWithout(16), x -> x.bringBack(set), ILLEGAL);
        }
        Check.due("the other one alone", Scene.sampleWithout(16).bringBack(16), 5);
    }

    private static void bringBackWithoutItsBase() {
        Check.sentence("bringBack: ILLEGAL_STATE if it cannot be brought back");
        for (int set : new int[] {2, 4, 6, 2 + 8}) {
            Refusal.due("bringBack " + set, () -> Scene.sampleWithout(31), x -> x.bringBack(set), ILLEGAL);
        }
        Check.due("it has no base", Scene.sampleWithout(31).bringBack(8), 5);
        Check.due("its base belongs to the set", Scene.sampleWithout(31).bringBack(3), 7);
        Check.due("its base is active", Scene.sampleWithout(6).bringBack(2), 7);
        Supplier<PricedUndo> chain = () -> {
            PricedUndo x = Scene.chainOf16();
            Check.due("take back", x.takeBack(65535), 0);
            return x;
        };
        Refusal.due("a chain without its beginning", chain, x -> x.bringBack(65534), ILLEGAL);
        Refusal.due("a chain with a gap", chain, x -> x.bringBack(65535 - 128), ILLEGAL);
        Check.due("a chain but for its end", chain.get().bringBack(32767), 15);
    }

    /** A text of 52 and eight more, or fewer, that were taken back (edit 0), then so many more (1). */
    private static PricedUndo takenBackAndInserted(int takenBack, int inserted) {
        PricedUndo x = Check.begun(Check.letters(52));
        Check.due("insert", Check.insert(x, 0, "12345678".substring(0, takenBack)), 0);
        Check.due("take back", x.takeBack(1), 52);
        Check.due("insert", Check.insert(x, 0, "12345678".substring(0, inserted)), 1);
        return Scene.surrounded(x);
    }

    private static void bringBackBeyond60() {
        Check.sentence("bringBack: CAPACITY_EXCEEDED if the text would have more than 60 characters");
        Refusal.due("53 and 8", () -> takenBackAndInserted(8, 1), x -> x.bringBack(1), FULL);
        Check.due("53 and 7", takenBackAndInserted(7, 1).bringBack(1), 60);
        Refusal.due("60 and 1", () -> takenBackAndInserted(1, 8), x -> x.bringBack(1), FULL);
        Check.due("59 and 1", takenBackAndInserted(1, 7).bringBack(1), 60);
        PricedUndo x = takenBackAndInserted(8, 8);
        Check.due("an erasure", x.erase(0, 8), 2);
        Check.due("it is taken back", x.takeBack(4), 60);
        Check.due("68", x.bringBack(1), FULL);
        Check.due("just 60 together with the erasure", x.bringBack(5), 60);
    }

    private static void bringBackAll() {
        Check.sentence("bringBack: Returns the length of the text then (smallest and greatest)");
        PricedUndo x = Check.begun("ab");
        Check.due("erase all", x.erase(0, 2), 0);
        Check.due("take back", x.takeBack(1), 2);
        Check.due("nothing is left", x.bringBack(1), 0);
        PricedUndo y = dearest();
        String before = Check.text(y);
        Check.due("take back", y.takeBack(65535), 60);
        Check.due("all of 16", y.bringBack(65535), 60);
        Check.due("text", Check.text(y), before);
    }

    private static void bringBackOrderOfCodes() {
        Check.sentence("bringBack: INVALID_ARGUMENT ...; ILLEGAL_STATE ...; CAPACITY_EXCEEDED ... (several apply)");
        // Edit 1 rests on edit 0; both were taken back, and the text was filled by edit 2.
        Supplier<PricedUndo> make = () -> {
            PricedUndo x = Check.begun(Check.letters(52));
            Check.due("insert", Check.insert(x, 0, "1"), 0);
            Check.due("insert behind it", Check.insert(x, 1, "2"), 1);
            Check.due("take back", x.takeBack(3), 52);
            Check.due("insert", Check.insert(x, 0, "abcdefgh"), 2);
            return Scene.surrounded(x);
        };
        Refusal.due("without its base, and 61", make, x -> x.bringBack(2), ILLEGAL);
        Refusal.due("an active one, and 61", make, x -> x.bringBack(5), ILLEGAL);
        Refusal.due("no such edit, and 61", make, x -> x.bringBack(9), INVALID);
        Refusal.due("no such edit, and an active one", make, x -> x.bringBack(12), INVALID);
        Refusal.due("no such edit, and one without its base", make, x -> x.bringBack(10), INVALID);
        Refusal.due("62", make, x -> x.bringBack(3), FULL);
    }

    // ---- promise 18

    private static void carriedByNoSet() {
        Check.sentence("carried: INVALID_ARGUMENT if set is negative or contains an edit that does not exist");
        refusedSets("carried", 0, set -> x -> x.carried(set, 0));
        Check.due("the greatest set", Scene.withEdits(16).carried(65535, 16), 0);
    }

    private static void carriedFromNoPlace() {
        Check.sentence("carried: INVALID_ARGUMENT if there is no such place");
        for (int place : new int[] {-1, 5, 8, LEAST, GREATEST}) {
            Refusal.due("place " + place, () -> Scene.sampleWithout(0), x -> x.carried(16, place), INVALID);
        }
        Check.due("the first place", Scene.sample().carried(16, 0), 0);
        Check.due("the last place", Scene.sample().carried(16, 4), 5);
        Check.due("of nothing", new PricedUndo().carried(0, 0), INVALID);
    }

    private static void carriedByASetThatCannot() {
        Check.sentence("carried: ILLEGAL_STATE if the set contains an edit that is not active, or cannot be taken back");
        Refusal.due("not active", () -> Scene.sampleWithout(16), x -> x.carried(16, 0), ILLEGAL);
        Refusal.due("one not active", () -> Scene.sampleWithout(16), x -> x.carried(24, 0), ILLEGAL);
        Refusal.due("others rest on it", () -> Scene.sampleWithout(0), x -> x.carried(1, 0), ILLEGAL);
        Refusal.due("another one rests on it", () -> Scene.sampleWithout(0), x -> x.carried(3, 0), ILLEGAL);
        Check.due("with all that rest on it", Scene.sample().carried(7, 0), 0);
    }

    private static void carriedToNone() {
        Check.sentence("carried: NONE if the character would not be visible then");
        Refusal.due("X", () -> Scene.sampleWithout(0), x -> x.carried(7, 1), NONE);
        Check.due("the one ahead of it", Scene.sample().carried(7, 0), 0);
        Check.due("the one behind its set", Scene.sample().carried(7, 3), 2);
    }

    private static void carriedByTheEmptySet() {
        Check.sentence("Returns the place to which a place would be carried by taking back a set of edits. (the empty set)");
        for (int place = 0; place < 5; place++) {
            Check.due("place " + place, Scene.sample().carried(0, place), place);
        }
        Check.due("no place", Scene.sample().carried(0, 5), INVALID);
    }

    private static void carriedBeyond60() {
        Check.sentence("carried: Returns the place in the text then (which may have more than 60 characters)");
        PricedUndo x = erasedAndInserted(8);
        Check.due("the last place", x.carried(1, 59), 67);
        Check.due("the first letter behind the erased ones", x.carried(1, 8), 16);
        Check.due("the last one ahead of them", x.carried(1, 7), 7);
        Check.due("both", x.carried(3, 59), 59);
    }

    private static void carriedOrderOfCodes() {
        Check.sentence("carried: INVALID_ARGUMENT ...; ILLEGAL_STATE ...; NONE ... (several apply)");
        Refusal.due("no place, and not to be taken back", () -> Scene.sampleWithout(0), x -> x.carried(1, 5), INVALID);
        Refusal.due("no such edit, and not to be taken back", () -> Scene.sampleWithout(0), x -> x.carried(33, 1), INVALID);
        Refusal.due("not to be taken back, and not visible", () -> Scene.sampleWithout(0), x -> x.carried(1, 1), ILLEGAL);
        Refusal.due("no such edit, and not visible", () -> Scene.sampleWithout(0), x -> x.carried(39, 1), INVALID);
    }

    // ---- promises 19 and 20

    private static void looseSmallestAndGreatest() {
        Check.sentence("Returns the set of active edits each of which can be taken back alone.");
        Check.due("of a new object", new PricedUndo().loose(), 0);
        Check.due("one", Scene.withEdits(1).loose(), 1);
        Check.due("all", Scene.withEdits(16).loose(), 65535);
        Check.due("the end of a chain", Scene.chainOf16().loose(), 1 << 15);
        PricedUndo x = Scene.chainOf16();
        x.takeBack(1 << 15);
        Check.due("the end of what is active", x.loose(), 1 << 14);
        Check.due("none is active", Scene.sampleWithout(31).loose(), 0);
        PricedUndo y = erasedAndInserted(8);
        Check.due("room plays no part", y.loose(), 3);
    }

    private static void openingWithoutSuchAnEdit() {
        Check.sentence("opening: INVALID_ARGUMENT if there is no such edit");
        refusedWithoutSuchAnEdit("opening", edit -> x -> x.opening(edit));
    }

    private static void openingActive() {
        Check.sentence("opening: ILLEGAL_STATE if it is active");
        Refusal.due("active", () -> Scene.sampleWithout(16), x -> x.opening(3), ILLEGAL);
        PricedUndo x = Scene.sampleWithout(16);
        Check.due("not active", x.opening(4), 16);
        x.bringBack(16);
        Check.due("active again", x.opening(4), ILLEGAL);
    }

    private static void openingSmallestAndGreatest() {
        Check.sentence("Returns the smallest set of edits that can be brought back and contains an edit.");
        PricedUndo x = Scene.chainOf16();
        Check.due("take back", x.takeBack(65535), 0);
        Check.due("the first alone", x.opening(0), 1);
        Check.due("the first two", x.opening(1), 3);
        Check.due("all", x.opening(15), 65535);
        Check.due("the first is brought back", x.bringBack(1), 1);
        Check.due("the second alone", x.opening(1), 2);
        Check.due("the others", x.opening(15), 65534);
    }

    // ---- promise 21

    private static void runWithoutSuchAnEdit() {
        Check.sentence("run: INVALID_ARGUMENT if there is no such edit (and author is not -1)");
        for (int author : new int[] {-2, 5, 16, 31, 32, LEAST, GREATEST}) {
            Refusal.due("author " + author, () -> Scene.sampleWithout(0), x -> x.run(author, 0), INVALID);
            Refusal.due("place of author " + author, () -> Scene.sampleWithout(0), x -> x.run(author, 1), INVALID);
        }
        Check.due("author -1", Scene.sample().run(-1, 0), 1);
        Check.due("author 0", Scene.sample().run(0, 0), 1);
        Check.due("the last author", Scene.sample().run(4, 0), 0);
        Check.due("author -1 of a new object", new PricedUndo().run(-1, 0), 0);
        Check.due("author 0 of a new object", new PricedUndo().run(0, 0), INVALID);
        Check.due("author 15 of 16", Scene.chainOf16().run(15, 1), 15);
        Check.due("author 16 of 16", Scene.chainOf16().run(16, 1), INVALID);
    }

    private static void runPartOutOfRange() {
        Check.sentence("run: INVALID_ARGUMENT if part is neither 0 nor 1");
        for (int part : new int[] {-1, 2, LEAST, GREATEST}) {
            for (int author : new int[] {-1, 0, 4}) {
                Refusal.due("part " + part, () -> Scene.sampleWithout(0), x -> x.run(author, part), INVALID);
            }
        }
    }

    private static void runNone() {
        Check.sentence("run: NONE for 1 if there is no such character in the text");
        Refusal.due("an erasure", () -> Scene.sampleWithout(0), x -> x.run(4, 1), NONE);
        Refusal.due("an insertion taken back", () -> Scene.sampleWithout(8), x -> x.run(3, 1), NONE);
        Check.due("but its length", Scene.sampleWithout(8).run(3, 0), 0);
        Check.due("an active insertion", Scene.sample().run(3, 1), 4);
        Check.due("of a new object", new PricedUndo().run(-1, 1), NONE);
        PricedUndo x = Check.begun("ab");
        Check.insert(x, 1, "X");
        Check.due("erase all", x.erase(0, 3), 1);
        Check.due("all of the beginning is hidden", x.run(-1, 1), NONE);
        Check.due("all of the insertion is hidden", x.run(0, 1), NONE);
        Check.due("its length", x.run(0, 0), 0);
    }

    private static void runFirstOfSeveral() {
        Check.sentence("of several the first stretch counts");
        PricedUndo x = Check.begun("abcdef");
        Check.insert(x, 2, "X");
        Check.insert(x, 5, "Y");
        Check.due("text", Check.text(x), "abXcdYef");
        Check.due("three of the same length", x.run(-1, 1), 0);
        Check.due("length", x.run(-1, 0), 2);
        Check.due("the first is shorter", x.erase(0, 1), 2);
        Check.due("the second counts", x.run(-1, 1), 2);
        Check.due("the second is shorter too", x.erase(2, 3), 3);
        Check.due("the last counts", x.run(-1, 1), 4);
        Check.due("length", x.run(-1, 0), 2);
    }

    private static void runGreatest() {
        Check.sentence("Returns the longest stretch of the text whose characters have the same author.");
        PricedUndo x = Check.begun(Check.letters(60));
        Check.due("the whole text", x.run(-1, 0), 60);
        Check.due("from its beginning", x.run(-1, 1), 0);
        Check.due("erase in the middle", x.erase(20, 40), 0);
        Check.due("a hidden one does not part it", x.run(-1, 0), 40);
        Check.due("insert", Check.insert(x, 39, "12345678"), 1);
        Check.due("up to the insertion", x.run(-1, 0), 39);
        Check.due("the insertion", x.run(1, 0), 8);
        Check.due("its place", x.run(1, 1), 39);
    }
}
