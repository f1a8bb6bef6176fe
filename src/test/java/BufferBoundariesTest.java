import java.util.function.Supplier;

/**
 * Promises 1 to 11 and the description of the buffer: each sentence that names a smallest or a largest value,
 * something empty or full, or a refused call, at its boundary and on both sides of it.
 */
public final class BufferBoundariesTest {
    private static final int INVALID = PricedUndo.INVALID_ARGUMENT;
    private static final int ILLEGAL = PricedUndo.ILLEGAL_STATE;
    private static final int FULL = PricedUndo.CAPACITY_EXCEEDED;
    private static final int NONE = PricedUndo.NONE;
    private static final int LEAST = Integer.MIN_VALUE;
    private static final int GREATEST = Integer.MAX_VALUE;

    public static void main(String[] args) {
        description();
        newObjectAndClip();
        insertAndErase();
        cursorAndPrices();
        questions();
        Check.finish();
    }

    private static void description() {
        usedFor512Calls();
        atMost160Characters();
        the160thIsTheLastOfAll();
        visibleUnlessErased();
        placesFromZero();
        textOfAtMost60();
        gapsUpToTheLength();
        atMost16Edits();
        oneToEightCharacters();
        noAnchorAtGapZero();
        directlyBehindTheAnchor();
        visibleCharactersOfAStretch();
        atLeastOneCharacter();
        longestChain();
        clipThatBecomesABuffer();
    }

    private static void newObjectAndClip() {
        newObjectIsEmpty();
        codesOfTheClip();
        clipOf60();
        codeComesAheadOfRoom();
        clearClipLengths();
        beginWithAnyClip();
        beginWithAFullBuffer();
        beginKeepsTheRest();
    }

    private static void insertAndErase() {
        insertEmptiesTheClip();
        insertGapOutOfRange();
        insertClipOfWrongLength();
        insertTheSeventeenthEdit();
        insertBeyond60();
        insertBeyond160();
        insertOrderOfCodes();
        eraseOutOfRange();
        eraseOnAnEmptyText();
        eraseWholeFullText();
        eraseTheSeventeenthEdit();
        eraseOrderOfCodes();
    }

    private static void cursorAndPrices() {
        cursorOutOfRange();
        cursorOfAShorterText();
        cursorStaysOtherwise();
        cursorBySetsTakenBackAtOnce();
        pricesOutOfRange();
        pricesAtFirst();
        pricesChanged();
    }

    private static void questions() {
        characterNegative();
        characterBehindTheText();
        authorOutOfRange();
        authorFromTheBeginning();
        countOutOfRange();
        countSmallest();
        countGreatest();
    }

    private static PricedUndo begunWithClip(String text, String clip) {
        PricedUndo x = Check.begun(text);
        Check.clip(x, clip);
        return Scene.surrounded(x);
    }

    // ---- the description

    private static void usedFor512Calls() {
        Check.sentence("An object is used for at most 512 calls after it has been made");
        PricedUndo x = new PricedUndo();
        for (int i = 0; i < 170; i++) {
            Check.due("append", x.appendCharacter('a' + i % 26), 1);
            Check.due("begin", x.begin(), 1);
            Check.due("erase", x.erase(0, 1), 0);
        }
        Check.due("the 511th call", x.save(0), 0);
        Check.due("the 512th call", x.takeBack(1), 1);
    }

    private static void atMost160Characters() {
        Check.sentence("The buffer has characters in a fixed order, at most 160");
        PricedUndo x = Scene.with156Characters();
        Check.due("the last four", Check.insert(x, 40, "wxyz"), 14);
        Check.due("all characters", x.count(1), 160);
        Check.due("the last of the text", x.character(43), 'z');
        Check.due("all edits taken back", x.takeBack(32767), 60);
        Check.due("the order of the first text", Check.text(x), Check.letters(60));
        Check.due("all edits brought back", x.bringBack(32767), 44);
        Check.due("the last of the text", x.character(43), 'z');
    }

    private static void the160thIsTheLastOfAll() {
        Check.sentence("at most 160 (the last of them, in the order of all characters, was inserted)");
        PricedUndo x = Scene.with160Characters();
        Check.due("text", Check.text(x).substring(40), "hwxyz");
        Check.due("author", x.author(44), 14);
        Check.due("the one ahead of them", x.author(40), NONE);
        Check.due("erase the last of all", x.erase(44, 45), 15);
        Check.due("it rests on its insertion", x.edit(15, 5), 1 << 14);
        Check.due("its place", x.edit(15, 3), 44);
        Check.due("cheapest without z", x.cheapest(1, 'z'), ILLEGAL);
        Check.due("take back all but the erasure of the first text and the last two", x.takeBack((1 << 14) - 2), 4);
        Check.due("text", Check.text(x), "hwxy");
        Check.due("cheapest for a text of 5", x.cheapest(0, 5), 1 << 15);
        Check.due("take it back", x.takeBack(1 << 15), 5);
        Check.due("text", Check.text(x), "hwxyz");
        Check.due("cheapest without z", x.cheapest(1, 'z'), 1 << 14);
        Check.due("clearing of the last of all", x.clearing(4, 5), 1 << 14);
    }

    private static void visibleUnlessErased() {
        Check.sentence("A character is visible if it was there from the beginning or the edit that inserted it is active, and no"
            + " active edit has erased it.");
        PricedUndo x = Check.begun("ab");
        Check.due("insert X", Check.insert(x, 1, "X"), 0);
        for (int edit = 1; edit <= 2; edit++) {
            Check.due("erase aX", x.erase(0, 2), edit);
            Check.due("they show again", x.takeBack(1 << edit), 3);
        }
        Check.due("erased by both", x.bringBack(6), 1);
        Check.due("erased by one", x.takeBack(2), 1);
        Check.due("text", Check.text(x), "b");
        Check.due("erased by none", x.takeBack(4), 3);
        Check.due("text", Check.text(x), "aXb");
        Check.due("its insertion is not active", x.takeBack(1), 2);
        Check.due("text", Check.text(x), "ab");
    }

    private static void placesFromZero() {
        Check.sentence("The visible characters form the text of the buffer; its places are numbered from 0.");
        PricedUndo x = Check.begun("ab");
        Check.due("place 0", x.character(0), 'a');
        Check.due("place 1", x.character(1), 'b');
        Check.due("erase the first", x.erase(0, 1), 0);
        Check.due("place 0", x.character(0), 'b');
    }

    private static void textOfAtMost60() {
        Check.sentence("The text has at most 60 characters.");
        PricedUndo x = Check.begun(Check.letters(60));
        Check.due("length", x.count(0), 60);
        Check.due("the last one", x.character(59), 'a' + 59 % 26);
        Refusal.due("one more", () -> begunWithClip(Check.letters(60), "a"), y -> y.insert(60), FULL);
    }

    private static void gapsUpToTheLength() {
        Check.sentence("A gap g, 0 to the length of the text, lies ahead of the character at the place g (the last gap"
            + " behind all).");
        String[] due = {"Xab", "aXb", "abX"};
        for (int gap = 0; gap <= 2; gap++) {
            PricedUndo x = Check.begun("ab");
            Check.due("insert at " + gap, Check.insert(x, gap, "X"), 0);
            Check.due("text", Check.text(x), due[gap]);
        }
    }

    private static void atMost16Edits() {
        Check.sentence("There are at most 16 edits, numbered from 0 in the order in which they were made.");
        PricedUndo x = Scene.withEdits(15);
        Check.due("the last one", x.erase(0, 1), 15);
        Check.due("edits", x.count(2), 16);
        Check.due("its kind", x.edit(15, 0), 1);
        Check.due("the kind of the one ahead of it", x.edit(14, 0), 0);
    }

    private static void oneToEightCharacters() {
        Check.sentence("An insertion inserts 1 to 8 characters.");
        for (int size = 1; size <= 8; size++) {
            PricedUndo x = Check.begun("..");
            Check.due("insert", Check.insert(x, 1, Check.letters(size)), 0);
            Check.due("text", Check.text(x), "." + Check.letters(size) + ".");
            Check.due("size", x.edit(0, 2), size);
        }
    }

    private static void noAnchorAtGapZero() {
        Check.sentence("Its anchor is the visible character directly ahead of the gap at which it was made; if the gap"
            + " was 0, it has none.");
        PricedUndo x = Check.begun("");
        Check.due("insert", Check.insert(x, 0, "ab"), 0);
        Check.due("at gap 0", Check.insert(x, 0, "c"), 1);
        Check.due("it rests on none", x.edit(1, 5), 0);
        Check.due("at gap 1", Check.insert(x, 1, "d"), 2);
        Check.due("it rests on the one at place 0", x.edit(2, 5), 2);
        Check.due("at the last gap", Check.insert(x, 4, "e"), 3);
        Check.due("it rests on the one at the last place", x.edit(3, 5), 1);
    }

    private static void directlyBehindTheAnchor() {
        Check.sentence("Its characters stand, in the order of all characters, directly behind the anchor (or ahead of"
            + " all characters).");
        PricedUndo x = Check.begun("abc");
        Check.due("erase ab", x.erase(0, 2), 0);
        Check.due("insert ahead of all", Check.insert(x, 0, "X"), 1);
        Check.due("insert behind X", Check.insert(x, 1, "Y"), 2);
        Check.due("erase all", x.erase(0, 3), 3);
        Check.due("insert into the empty text", Check.insert(x, 0, "Z"), 4);
        Check.due("both erasures taken back", x.takeBack(9), 6);
        Check.due("text", Check.text(x), "ZXYabc");
    }

    private static void visibleCharactersOfAStretch() {
        Check.sentence("An erasure erases the visible characters in a stretch of the text.");
        PricedUndo x = Check.begun("abcde");
        Check.due("erase c", x.erase(2, 3), 0);
        Check.due("erase bd, around c", x.erase(1, 3), 1);
        Check.due("it erased two", x.edit(1, 2), 2);
        Check.due("c shows again", x.takeBack(1), 3);
        Check.due("text", Check.text(x), "ace");
    }

    private static void atLeastOneCharacter() {
        Check.sentence("or an erasure of at least one character that was inserted by e");
        int[][] stretches = {{0, 2, 0}, {1, 3, 1}, {2, 4, 1}, {3, 5, 1}, {4, 6, 0}, {0, 6, 1}};
        for (int[] row : stretches) {
            PricedUndo x = Check.begun("abcd");
            Check.due("insert", Check.insert(x, 2, "XY"), 0);
            Check.due("erase", x.erase(row[0], row[1]), 1);
            Check.due("erasure from " + row[0] + " to " + row[1] + " rests on", x.edit(1, 5), row[2]);
        }
    }

    private static void longestChain() {
        Check.sentence("f rests on e if there is a chain of edits from f to e each of which rests directly on the next"
            + " one.");
        PricedUndo x = Scene.chainOf16();
        Check.due("the last one rests on", x.edit(15, 5), 32767);
        Check.due("on the first one rest", x.edit(0, 6), 65534);
        Check.due("the first one rests on", x.edit(0, 5), 0);
        Check.due("on the last one rest", x.edit(15, 6), 0);
        Check.due("taken back (whether they are active plays no part)", x.takeBack(65534), 1);
        Check.due("the last one rests on", x.edit(15, 5), 32767);
        Check.due("on the first one rest", x.edit(0, 6), 65534);
    }

    private static void clipThatBecomesABuffer() {
        Check.sentence("A clip with more than 8 characters cannot be inserted, but it can become a new buffer.");
        Refusal.due("insert 9", () -> begunWithClip("ab", Check.letters(9)), x -> x.insert(0), ILLEGAL);
        PricedUndo x = begunWithClip("ab", Check.letters(9));
        Check.due("begin with 9", x.begin(), 9);
        Check.due("text", Check.text(x), Check.letters(9));
    }

    // ---- promises 1 to 4

    private static void newObjectIsEmpty() {
        Check.sentence("Creates an empty buffer without edits, with the cursor 0, an empty clip and an empty script.");
        PricedUndo x = new PricedUndo();
        Check.due("length", x.count(0), 0);
        Check.due("all characters", x.count(1), 0);
        Check.due("edits", x.count(2), 0);
        Check.due("cursor", x.count(4), 0);
        Check.due("clip", x.clearClip(), 0);
        Check.due("script", x.clearScript(), 0);
        Check.due("the empty text has no place 0", x.character(0), NONE);
    }

    private static void codesOfTheClip() {
        Check.sentence("character code, 32 to 126; INVALID_ARGUMENT if character is out of range");
        int[] wrong = {31, 127, -1, 0, 'a' + 256, 'a' + 65536, 'a' - 256, LEAST, GREATEST};
        for (int code : wrong) {
            Refusal.due("append " + code, () -> begunWithClip("abc", "pq"), x -> x.appendCharacter(code), INVALID);
        }
        PricedUndo x = new PricedUndo();
        Check.due("append 32", x.appendCharacter(32), 1);
        Check.due("append 126", x.appendCharacter(126), 2);
        Check.due("begin", x.begin(), 2);
        Check.due("the first code", x.character(0), 32);
        Check.due("the last code", x.character(1), 126);
    }

    private static void clipOf60() {
        Check.sentence("CAPACITY_EXCEEDED if the clip has 60 characters");
        PricedUndo x = begunWithClip("abc", Check.letters(59));
        Check.due("the 60th", x.appendCharacter('!'), 60);
        Check.due("clip", x.count(5), 60);
        Refusal.due("the 61st", () -> begunWithClip("abc", Check.letters(60)), y -> y.appendCharacter('!'), FULL);
    }

    private static void codeComesAheadOfRoom() {
        Check.sentence("INVALID_ARGUMENT if character is out of range; CAPACITY_EXCEEDED if the clip has 60 characters");
        for (int code : new int[] {31, 127}) {
            Refusal.due("a wrong 61st", () -> begunWithClip("", Check.letters(60)), x -> x.appendCharacter(code), INVALID);
        }
    }

    private static void clearClipLengths() {
        Check.sentence("Makes the clip empty. Returns the previous length of the clip.");
        for (int length : new int[] {0, 1, 59, 60}) {
            PricedUndo x = begunWithClip("ab", Check.letters(length));
            Check.due("clip of " + length, x.clearClip(), length);
            Check.due("an empty one", x.clearClip(), 0);
            Check.due("it begins anew", x.appendCharacter('a'), 1);
        }
    }

    private static void beginWithAnyClip() {
        Check.sentence("Makes a new buffer, whose characters are those of the clip (perhaps none).");
        for (int length : new int[] {0, 1, 8, 9, 59, 60}) {
            PricedUndo x = begunWithClip("before", Check.letters(length));
            Check.due("begin", x.begin(), length);
            Check.due("text", Check.text(x), Check.letters(length));
            Check.due("all characters", x.count(1), length);
        }
    }

    private static void beginWithAFullBuffer() {
        Check.sentence("There are no edits then, the cursor is 0, and the clip is empty.");
        PricedUndo x = Scene.with156Characters();
        Check.due("the last characters", Check.insert(x, 0, "wxyz"), 14);
        Check.due("the last edit", x.erase(0, 1), 15);
        x.setCursor(43);
        Check.clip(x, "ab");
        Check.due("begin", x.begin(), 2);
        for (int what = 2; what <= 6; what++) {
            Check.due("count " + what, x.count(what), 0);
        }
        Check.due("no edit 0", x.edit(0, 0), INVALID);
        Check.due("there is room for an edit again", Check.insert(x, 1, "c"), 0);
        Check.due("text", Check.text(x), "acb");
        Check.due("an insertion where an erasure was", x.edit(0, 0), 0);
        Check.due("an erasure where an insertion was", x.erase(0, 1), 1);
        Check.due("its kind", x.edit(1, 0), 1);

        PricedUndo y = Scene.chainOf16();
        Check.clip(y, "abcd");
        Check.due("begin", y.begin(), 4);
        for (int edit = 0; edit < 4; edit++) {
            Check.due("erase", y.erase(0, 1), edit);
            Check.due("it rests on none, where one with bases was", y.edit(edit, 5), 0);
        }
    }

    private static void beginKeepsTheRest() {
        Check.sentence("Prices, snapshots and the script stay.");
        PricedUndo x = Scene.surrounded(Check.begun("abc"));
        Check.due("begin with none", x.begin(), 0);
        Check.due("prices", x.setPrices(2, 3), 0);
        Check.due("script", x.clearScript(), 14);
        Check.due("snapshot 0", x.restore(0), 3);
        Check.due("its cursor", x.count(4), 0);
        Check.due("snapshot 1", x.restore(1), 3);
        Check.due("its cursor", x.count(4), 1);
    }

    // ---- promises 5 and 6

    private static void insertEmptiesTheClip() {
        Check.sentence("Inserts the clip. The clip becomes empty.");
        PricedUndo x = begunWithClip("ab", Check.letters(8));
        Check.due("insert", x.insert(0), 0);
        Check.due("clip", x.count(5), 0);
        Check.due("it cannot be inserted again", x.insert(0), ILLEGAL);
        Check.due("it begins anew", x.appendCharacter('Z'), 1);
        Check.due("insert", x.insert(0), 1);
        Check.due("text", Check.text(x), "Zabcdefghab");
    }

    private static void insertGapOutOfRange() {
        Check.sentence("gap: 0 to the length of the text; INVALID_ARGUMENT if gap is out of range");
        for (int gap : new int[] {-1, 5, 60, LEAST, GREATEST}) {
            Refusal.due("gap " + gap, () -> begunWithClip("abcd", "X"), x -> x.insert(gap), INVALID);
        }
        Refusal.due("gap 1 of nothing", () -> begunWithClip("", "X"), x -> x.insert(1), INVALID);
        Check.due("gap 0 of nothing", begunWithClip("", "X").insert(0), 0);
        Check.due("gap 0", begunWithClip("abcd", "X").insert(0), 0);
        Check.due("gap 4", begunWithClip("abcd", "X").insert(4), 0);
        Check.due("gap 59 of 59", begunWithClip(Check.letters(59), "X").insert(59), 0);
        Refusal.due("a gap of hidden ones", () -> hiddenWithClip(), x -> x.insert(3), INVALID);
    }

    /** Four characters, two of which are visible. */
    private static PricedUndo hiddenWithClip() {
        PricedUndo x = Check.begun("abcd");
        Check.due("erase", x.erase(1, 3), 0);
        Check.clip(x, "X");
        return Scene.surrounded(x);
    }

    private static void insertClipOfWrongLength() {
        Check.sentence("ILLEGAL_STATE if the clip is empty, or has more than 8 characters");
        for (int length : new int[] {0, 9, 60}) {
            Refusal.due("clip of " + length, () -> begunWithClip("", Check.letters(length)), x -> x.insert(0), ILLEGAL);
        }
        Check.due("clip of 1", begunWithClip("", "a").insert(0), 0);
        Check.due("clip of 8", begunWithClip("", Check.letters(8)).insert(0), 0);
    }

    private static PricedUndo editsWithClip(int edits, int takenBack, String clip) {
        PricedUndo x = Scene.withEdits(edits);
        if (takenBack != 0) {
            Check.due("taken back", x.takeBack(takenBack), 4 + edits - Integer.bitCount(takenBack));
        }
        Check.clip(x, clip);
        return Scene.surrounded(x);
    }

    private static void insertTheSeventeenthEdit() {
        Check.sentence("CAPACITY_EXCEEDED if there are 16 edits");
        Check.due("the 16th", editsWithClip(15, 0, "y").insert(0), 15);
        Refusal.due("the 17th", () -> editsWithClip(16, 0, "y"), x -> x.insert(0), FULL);
        Refusal.due("edits taken back count", () -> editsWithClip(16, 65535, "y"), x -> x.insert(0), FULL);
    }

    private static void insertBeyond60() {
        Check.sentence("CAPACITY_EXCEEDED if the text would have more than 60 characters");
        Check.due("52 and 8", begunWithClip(Check.letters(52), Check.letters(8)).insert(0), 0);
        Refusal.due("53 and 8", () -> begunWithClip(Check.letters(53), Check.letters(8)), x -> x.insert(0), FULL);
        Check.due("59 and 1", begunWithClip(Check.letters(59), "X").insert(59), 0);
        Refusal.due("60 and 1", () -> begunWithClip(Check.letters(60), "X"), x -> x.insert(0), FULL);
        Check.due("60, 8 of them hidden, and 8", hiddenOf60(8).insert(0), 1);
        Refusal.due("60, 7 of them hidden, and 8", () -> hiddenOf60(7), x -> x.insert(0), FULL);
    }

    private static PricedUndo hiddenOf60(int hidden) {
        PricedUndo x = Check.begun(Check.letters(60));
        Check.due("erase", x.erase(0, hidden), 0);
        Check.clip(x, Check.letters(8));
        return Scene.surrounded(x);
    }

    private static PricedUndo with156AndClip(String clip) {
        PricedUndo x = Scene.with156Characters();
        Check.clip(x, clip);
        return x;
    }

    private static void insertBeyond160() {
        Check.sentence("CAPACITY_EXCEEDED if there would be more than 160 characters altogether");
        PricedUndo x = with156AndClip("wxyz");
        Check.due("156 and 4", x.insert(0), 14);
        Check.due("all characters", x.count(1), 160);
        Refusal.due("156 and 5", () -> with156AndClip("vwxyz"), y -> y.insert(0), FULL);
        Supplier<PricedUndo> full = () -> {
            PricedUndo y = with156AndClip("wxyz");
            Check.due("156 and 4", y.insert(0), 14);
            Check.clip(y, "a");
            return y;
        };
        Refusal.due("160 and 1", full, y -> y.insert(0), FULL);
        Check.due("an erasure adds none", full.get().erase(0, 44), 15);
    }

    private static void insertOrderOfCodes() {
        Check.sentence("If several error codes apply, the one that is named first in the description of the method is"
            + " returned: insert");
        Refusal.due("gap and empty clip", () -> begunWithClip("ab", ""), x -> x.insert(3), INVALID);
        Refusal.due("gap and clip of 9", () -> begunWithClip("ab", Check.letters(9)), x -> x.insert(-1), INVALID);
        Refusal.due("gap and 16 edits", () -> editsWithClip(16, 0, "y"), x -> x.insert(21), INVALID);
        Refusal.due("gap and a full text", () -> begunWithClip(Check.letters(60), "X"), x -> x.insert(61), INVALID);
        Refusal.due("gap and 161", () -> with156AndClip("vwxyz"), x -> x.insert(41), INVALID);
        Refusal.due("empty clip and 16 edits", () -> editsWithClip(16, 0, ""), x -> x.insert(0), ILLEGAL);
        Refusal.due("clip of 9 and 16 edits", () -> editsWithClip(16, 0, Check.letters(9)), x -> x.insert(0), ILLEGAL);
        Refusal.due("clip of 9 and 61", () -> begunWithClip(Check.letters(52), Check.letters(9)), x -> x.insert(0), ILLEGAL);
        Refusal.due("clip of 9 and 165", () -> with156AndClip(Check.letters(9)), x -> x.insert(0), ILLEGAL);
        Refusal.due("all three", () -> editsWithClip(16, 0, ""), x -> x.insert(-1), INVALID);
    }

    private static void eraseOutOfRange() {
        Check.sentence("from: 0 to the length of the text less 1; to: from + 1 to the length of the text;"
            + " INVALID_ARGUMENT if an argument is out of range");
        int[][] wrong = {{-1, 0}, {-1, 1}, {-1, 4}, {4, 4}, {4, 5}, {5, 4}, {0, 0}, {2, 2}, {3, 3}, {3, 2}, {1, 0}, {0, -1}, {0, 5},
            {3, 5}, {LEAST, LEAST + 1}, {LEAST, 1}, {GREATEST, LEAST}, {GREATEST, GREATEST}, {GREATEST - 1, GREATEST}, {0, GREATEST},
            {0, LEAST}, {LEAST, GREATEST}};
        for (int[] row : wrong) {
            Refusal.due("erase " + row[0] + " " + row[1], () -> begunWithClip("abcd", "X"), x -> x.erase(row[0], row[1]), INVALID);
        }
        String[] left = {"bcd", "abc", ""};
        int[][] right = {{0, 1}, {3, 4}, {0, 4}};
        for (int i = 0; i < right.length; i++) {
            PricedUndo x = Check.begun("abcd");
            Check.due("erase " + right[i][0] + " " + right[i][1], x.erase(right[i][0], right[i][1]), 0);
            Check.due("text", Check.text(x), left[i]);
        }
        Refusal.due("to a hidden one", () -> hiddenWithClip(), x -> x.erase(0, 3), INVALID);
        Check.due("to the last visible one", hiddenWithClip().erase(0, 2), 1);
    }

    private static void eraseOnAnEmptyText() {
        Check.sentence("from: 0 to the length of the text less 1 (of an empty text: no place)");
        for (int[] row : new int[][] {{0, 0}, {0, 1}, {-1, 0}}) {
            Refusal.due("erase " + row[0] + " " + row[1], () -> begunWithClip("", "X"), x -> x.erase(row[0], row[1]), INVALID);
        }
    }

    private static void eraseWholeFullText() {
        Check.sentence("to: from + 1 to the length of the text, the place behind the last one (of a full text)");
        PricedUndo x = Check.begun(Check.letters(60));
        Check.due("to 61", x.erase(0, 61), INVALID);
        Check.due("from 60", x.erase(60, 61), INVALID);
        Check.due("the last one", x.erase(59, 60), 0);
        Check.due("all others", x.erase(0, 59), 1);
        Check.due("length", x.count(0), 0);
        Check.due("all characters", x.count(1), 60);
        Check.due("its size", x.edit(1, 2), 59);
    }

    private static void eraseTheSeventeenthEdit() {
        Check.sentence("erase: CAPACITY_EXCEEDED if there are 16 edits");
        Check.due("the 16th", editsWithClip(15, 0, "y").erase(0, 1), 15);
        Refusal.due("the 17th", () -> editsWithClip(16, 0, "y"), x -> x.erase(0, 1), FULL);
        Refusal.due("edits taken back count", () -> editsWithClip(16, 65535, "y"), x -> x.erase(0, 1), FULL);
    }

    private static void eraseOrderOfCodes() {
        Check.sentence("erase: INVALID_ARGUMENT if an argument is out of range; CAPACITY_EXCEEDED if there are 16 edits");
        for (int[] row : new int[][] {{-1, 1}, {20, 21}, {0, 0}, {0, 21}}) {
            Refusal.due("both", () -> editsWithClip(16, 0, "y"), x -> x.erase(row[0], row[1]), INVALID);
        }
    }

    // ---- promises 7 and 8

    private static void cursorOutOfRange() {
        Check.sentence("cursor: 0 to the length of the text; INVALID_ARGUMENT if cursor is out of range");
        for (int cursor : new int[] {-1, 5, LEAST, GREATEST}) {
            Refusal.due("cursor " + cursor, () -> begunWithClip("abcd", "X"), x -> x.setCursor(cursor), INVALID);
        }
        Refusal.due("behind the visible ones", () -> hiddenWithClip(), x -> x.setCursor(3), INVALID);
        PricedUndo x = Check.begun("abcd");
        Check.due("4", x.setCursor(4), 0);
        Check.due("0", x.setCursor(0), 4);
        Check.due("the previous one", x.setCursor(0), 0);
        PricedUndo y = Check.begun("");
        Check.due("0 of nothing", y.setCursor(0), 0);
        Check.due("1 of nothing", y.setCursor(1), INVALID);
        PricedUndo z = Check.begun(Check.letters(60));
        Check.due("60 of 60", z.setCursor(60), 0);
        Check.due("61 of 60", z.setCursor(61), INVALID);
        Check.due("cursor", z.count(4), 60);
    }

    private static void cursorOfAShorterText() {
        Check.sentence("if the text becomes shorter, the cursor becomes its length if it is greater");
        int[][] cursors = {{3, 3}, {4, 4}, {5, 4}, {6, 4}};
        for (int[] row : cursors) {
            PricedUndo x = Check.begun("abcdef");
            x.setCursor(row[0]);
            Check.due("erase", x.erase(0, 2), 0);
            Check.due("cursor " + row[0] + " after erasing", x.count(4), row[1]);
            PricedUndo y = Check.begun("abcd");
            Check.insert(y, 0, "ef");
            y.setCursor(row[0]);
            Check.due("take back", y.takeBack(1), 4);
            Check.due("cursor " + row[0] + " after taking back", y.count(4), row[1]);
            PricedUndo z = Check.begun("abcdef");
            Check.due("erase", z.erase(0, 2), 0);
            Check.due("take back", z.takeBack(1), 6);
            z.setCursor(row[0]);
            Check.due("bring back", z.bringBack(1), 4);
            Check.due("cursor " + row[0] + " after bringing back", z.count(4), row[1]);
        }
        PricedUndo x = Check.begun("ab");
        x.setCursor(2);
        Check.due("erase all", x.erase(0, 2), 0);
        Check.due("cursor of nothing", x.count(4), 0);
    }

    private static void cursorStaysOtherwise() {
        Check.sentence("edits do not move it otherwise");
        PricedUndo x = Check.begun("abcd");
        x.setCursor(4);
        Check.due("insert ahead of it", Check.insert(x, 0, "XY"), 0);
        Check.due("cursor", x.count(4), 4);
        Check.due("insert at it", Check.insert(x, 4, "Z"), 1);
        Check.due("cursor", x.count(4), 4);
        Check.due("erase ahead of it", x.erase(0, 3), 2);
        Check.due("cursor", x.count(4), 4);
        Check.due("take the erasure back", x.takeBack(4), 7);
        Check.due("cursor", x.count(4), 4);
    }

    private static void cursorBySetsTakenBackAtOnce() {
        Check.sentence("A set of active edits can be taken back ...: all its edits stop being active then.");
        PricedUndo x = Check.begun("abc");
        Check.due("erase", x.erase(0, 3), 0);
        Check.due("insert", Check.insert(x, 0, "xyz"), 1);
        x.setCursor(3);
        Check.due("both taken back", x.takeBack(3), 3);
        Check.due("the text was never shorter", x.count(4), 3);
        Check.due("both brought back", x.bringBack(3), 3);
        Check.due("the text was never shorter", x.count(4), 3);
    }

    private static void pricesOutOfRange() {
        Check.sentence("a: 0 to 9; b: 0 to 9; INVALID_ARGUMENT if an argument is out of range");
        int[][] wrong = {{-1, 5}, {10, 5}, {5, -1}, {5, 10}, {-1, -1}, {10, 10}, {LEAST, 5}, {GREATEST, 5}, {5, LEAST}, {5, GREATEST}};
        for (int[] row : wrong) {
            Refusal.due("prices " + row[0] + " " + row[1], () -> begunWithClip("ab", "X"), x -> x.setPrices(row[0], row[1]), INVALID);
        }
        for (int[] row : new int[][] {{0, 0}, {9, 9}, {0, 9}, {9, 0}}) {
            Check.due("prices " + row[0] + " " + row[1], new PricedUndo().setPrices(row[0], row[1]), 1);
        }
    }

    private static void pricesAtFirst() {
        Check.sentence("A and B are 0 to 9 (at first 1 each).");
        Check.due("1 and 1", new PricedUndo().setPrices(1, 1), 0);
        Check.due("1 and 0", new PricedUndo().setPrices(1, 0), 1);
        Check.due("0 and 1", new PricedUndo().setPrices(0, 1), 1);
        PricedUndo x = Check.begun("abcdef");
        x.erase(5, 6);
        x.erase(0, 1);
        Check.due("1 and 1 for one edit and 4 characters", x.edit(0, 4), 3);
    }

    private static void pricesChanged() {
        Check.sentence("Returns 1 if something changed, otherwise 0");
        PricedUndo x = new PricedUndo();
        Check.due("both", x.setPrices(9, 0), 1);
        Check.due("none", x.setPrices(9, 0), 0);
        Check.due("a alone", x.setPrices(0, 0), 1);
        Check.due("b alone", x.setPrices(0, 9), 1);
        Check.due("none", x.setPrices(0, 9), 0);
    }

    // ---- promises 9 to 11

    private static void characterNegative() {
        Check.sentence("place: 0 or more; INVALID_ARGUMENT if place is negative");
        for (int place : new int[] {-1, LEAST}) {
            Refusal.due("place " + place, () -> begunWithClip("abc", "X"), x -> x.character(place), INVALID);
        }
        Check.due("place 0", Check.begun("abc").character(0), 'a');
        Check.due("of nothing", new PricedUndo().character(-1), INVALID);
    }

    private static void characterBehindTheText() {
        Check.sentence("NONE if the text is not so long");
        for (int place : new int[] {3, 60, 160, GREATEST}) {
            Refusal.due("place " + place, () -> begunWithClip("abc", "X"), x -> x.character(place), NONE);
        }
        Check.due("the last place", Check.begun("abc").character(2), 'c');
        Check.due("of nothing", new PricedUndo().character(0), NONE);
        PricedUndo x = Check.begun(Check.letters(60));
        Check.due("place 59", x.character(59), 'a' + 59 % 26);
        Check.due("place 60", x.character(60), NONE);
        Check.due("a hidden one", hiddenWithClip().character(2), NONE);
    }

    private static void authorOutOfRange() {
        Check.sentence("place: a place of the text; INVALID_ARGUMENT if there is no such place");
        for (int place : new int[] {-1, 3, LEAST, GREATEST}) {
            Refusal.due("place " + place, () -> begunWithClip("abc", "X"), x -> x.author(place), INVALID);
        }
        Check.due("of nothing", new PricedUndo().author(0), INVALID);
        Check.due("a hidden one", hiddenWithClip().author(2), INVALID);
        PricedUndo x = Scene.chainOf16();
        Check.due("place 0", x.author(0), 0);
        Check.due("place 15", x.author(15), 15);
        Check.due("place 16", x.author(16), INVALID);
    }

    private static void authorFromTheBeginning() {
        Check.sentence("NONE if it was there from the beginning");
        PricedUndo x = Check.begun("ab");
        Check.insert(x, 1, "X");
        Check.due("ahead of the insertion", x.author(0), NONE);
        Check.due("the insertion", x.author(1), 0);
        Check.due("behind the insertion", x.author(2), NONE);
    }

    private static void countOutOfRange() {
        Check.sentence("count: INVALID_ARGUMENT if what is out of range");
        for (int what : new int[] {-1, 7, LEAST, GREATEST}) {
            Refusal.due("count " + what, () -> begunWithClip("abc", "X"), x -> x.count(what), INVALID);
        }
    }

    private static void countSmallest() {
        Check.sentence("what: 0 the length of the text, ..., 6 the number of unordered pairs of edits that commute"
            + " (smallest)");
        for (int what = 0; what <= 6; what++) {
            Check.due("count " + what, new PricedUndo().count(what), 0);
        }
        Check.due("one edit makes no pair", Scene.withEdits(1).count(6), 0);
        Check.due("two edits make one", Scene.withEdits(2).count(6), 1);
        Check.due("a chain makes none", Scene.chainOf16().count(6), 0);
    }

    private static void countGreatest() {
        Check.sentence("what: 0 the length of the text, ..., 6 the number of unordered pairs of edits that commute"
            + " (greatest)");
        PricedUndo x = Scene.withEdits(16);
        Check.due("edits", x.count(2), 16);
        Check.due("active edits", x.count(3), 16);
        Check.due("pairs", x.count(6), 120);
        Check.due("all taken back", x.takeBack(65535), 4);
        Check.due("edits", x.count(2), 16);
        Check.due("active edits", x.count(3), 0);
        Check.due("pairs", x.count(6), 120);
        PricedUndo y = Check.begun(Check.letters(60));
        y.setCursor(60);
        Check.clip(y, Check.letters(60));
        Check.due("length", y.count(0), 60);
        Check.due("all characters", y.count(1), 60);
        Check.due("cursor", y.count(4), 60);
        Check.due("clip", y.count(5), 60);
    }
}
