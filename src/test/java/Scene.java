/** Objects in the states at which the document draws a boundary; none takes more than 230 calls to make. */
final class Scene {
    private Scene() {
    }

    /** A text of "abcd" with these many edits, each of which inserted an "x" ahead of all. */
    static PricedUndo withEdits(int edits) {
        PricedUndo x = Check.begun("abcd");
        for (int edit = 0; edit < edits; edit++) {
            Check.due("insert " + edit, Check.insert(x, 0, "x"), edit);
        }
        return x;
    }

    /** 156 characters, of which 40 are visible, and 14 edits: erasures 0 and 8, else insertions ahead of all. */
    static PricedUndo with156Characters() {
        PricedUndo x = new PricedUndo();
        fill(x, 60);
        Check.due("all characters", x.count(1), 156);
        return x;
    }

    /** 160 characters, of which 45 are visible: edit 14 inserted the last four behind all others. */
    static PricedUndo with160Characters() {
        PricedUndo x = new PricedUndo();
        fill(x, 59);
        Check.due("the last four", Check.insert(x, 41, "wxyz"), 14);
        Check.due("all characters", x.count(1), 160);
        return x;
    }

    /** Begins with 60 letters, of which the first ones are erased, and makes 156 characters of them by edits 0 to 13. */
    static void fill(PricedUndo x, int erased) {
        Check.begin(x, Check.letters(60));
        Check.due("erase the first text", x.erase(0, erased), 0);
        for (int edit = 1; edit <= 7; edit++) {
            Check.due("insert " + edit, Check.insert(x, 0, Check.letters(8)), edit);
        }
        Check.due("erase the second text", x.erase(0, 56), 8);
        for (int edit = 9; edit <= 13; edit++) {
            Check.due("insert " + edit, Check.insert(x, 0, Check.letters(8)), edit);
        }
    }

    /** As many edits as there may be, each of which rests on all that were made before it. */
    static PricedUndo chainOf16() {
        PricedUndo x = Check.begun("");
        for (int edit = 0; edit < 16; edit++) {
            Check.due("insert " + edit, Check.insert(x, edit, "x"), edit);
        }
        return x;
    }

    /**
     * abcd, then XY behind b (edit 0), Z behind X (1), Y and c erased (2), w behind d (3), b erased (4):
     * the text is aXZdw, in the order of all characters a b X Z Y c d w.
     */
    static PricedUndo sample() {
        PricedUndo x = Check.begun("abcd");
        Check.due("XY", Check.insert(x, 2, "XY"), 0);
        Check.due("Z", Check.insert(x, 3, "Z"), 1);
        Check.due("erase Yc", x.erase(4, 6), 2);
        Check.due("w", Check.insert(x, 5, "w"), 3);
        Check.due("erase b", x.erase(1, 2), 4);
        Check.due("text", Check.text(x), "aXZdw");
        return x;
    }

    /** The sample, of which these edits have been taken back, with a clip and the surroundings. */
    static PricedUndo sampleWithout(int set) {
        PricedUndo x = sample();
        if (set != 0) {
            Check.due("taken back", x.takeBack(set) >= 0 ? 1 : 0, 1);
        }
        Check.clip(x, "pq");
        return surrounded(x);
    }

    /** Gives an object all that a call could damage beside the buffer and the clip: prices, a script and snapshots. */
    static PricedUndo surrounded(PricedUndo x) {
        x.save(0);
        x.setPrices(2, 3);
        x.setCursor(Math.min(1, x.count(0)));
        x.save(1);
        for (char code : "@0;+0:k;-0,1; ".toCharArray()) {
            x.appendScript(code);
        }
        return x;
    }
}
