import java.util.Random;

/** All promises: long runs of calls, ordinary ones and wrong ones, each answered as the model answers it. */
public final class ModelTest {
    private static final int RUNS = 400;
    private static final int CALLS = 512;
    private static final int[] EXTREMES = {Integer.MIN_VALUE, -65536, -10, -9, -3, -2, -1, 16, 31, 32, 33, 60, 61, 64, 80,
        126, 127, 160, 161, 255, 256, 65535, 65536, 1 << 30, Integer.MAX_VALUE};

    private final Random random;
    private final PricedUndo x = new PricedUndo();
    private final Model model = new Model();
    /** What kind of run this is: how much is begun with, how often edits are made, how dear goals may be. */
    private final int flavour;
    private int calls = 0;

    private ModelTest(long seed) {
        random = new Random(seed);
        flavour = random.nextInt(4);
    }

    public static void main(String[] args) {
        for (int seed = 0; seed < RUNS; seed++) {
            new ModelTest(seed).go();
        }
        Check.finish();
    }

    private void go() {
        beginNew();
        while (calls < CALLS - 100) {
            int dice = random.nextInt(100);
            if (dice < 14) {
                insertSome(1 + random.nextInt(random.nextInt(12) == 0 ? 9 : 8));
            } else if (dice < 20) {
                int from = place();
                int to = from + 1 + random.nextInt(flavour == 2 ? 30 : 5);
                same("erase", x.erase(from, to), model.erase(from, to));
            } else if (dice < 28) {
                turnSome();
            } else if (dice < 33) {
                runSome();
            } else if (dice < 34) {
                beginNew();
            } else if (dice < 38) {
                snapshots();
            } else if (dice < 41) {
                change();
            } else {
                ask(random.nextInt(17));
            }
        }
    }

    private void same(String call, int got, int want) {
        calls++;
        Check.due(call, got, want);
    }

    // ---- arguments

    private int wild() {
        return random.nextInt(8) == 0 ? random.nextInt() : EXTREMES[random.nextInt(EXTREMES.length)];
    }

    private boolean rarely() {
        return random.nextInt(25) == 0;
    }

    private int place() {
        return rarely() ? wild() : random.nextInt(model.count(0) + 2) - (rarely() ? 1 : 0);
    }

    private int number() {
        return rarely() ? wild() : random.nextInt(model.count(2) + 1);
    }

    private int upTo(int most) {
        return rarely() ? wild() : random.nextInt(most + 1);
    }

    private int someEdits() {
        return random.nextInt(1 << model.count(2));
    }

    /** A set of edits that most often can be taken back. */
    private int setToTake() {
        if (rarely()) {
            return wild();
        }
        switch (random.nextInt(4)) {
            case 0:
                return someEdits();
            case 1:
                return someEdits() & model.loose();
            default:
                return Math.max(0, model.closure(number())) | Math.max(0, model.closure(number()));
        }
    }

    /** A set of edits that most often can be brought back. */
    private int setToBring() {
        if (rarely()) {
            return wild();
        }
        if (random.nextInt(4) == 0) {
            return someEdits();
        }
        int found = 0;
        for (int edit = 0; edit < model.count(2); edit++) {
            if (random.nextInt(4) == 0) {
                found |= Math.max(0, model.opening(edit));
            }
        }
        return found;
    }

    private char letter() {
        return (char) ('a' + random.nextInt(5));
    }

    // ---- changes

    private void fillClip(int count) {
        for (int i = 0; i < count; i++) {
            int code = rarely() ? wild() : letter();
            same("appendCharacter", x.appendCharacter(code), model.appendCharacter(code));
        }
    }

    private void beginNew() {
        int[] lengths = {random.nextInt(10), 20 + random.nextInt(20), 50 + random.nextInt(11), 3};
        fillClip(lengths[flavour]);
        same("begin", x.begin(), model.begin());
    }

    private void insertSome(int count) {
        fillClip(count);
        int gap = place();
        same("insert", x.insert(gap), model.insert(gap));
        if (random.nextInt(8) != 0) {
            same("clearClip", x.clearClip(), model.clearClip());
        }
    }

    private void turnSome() {
        if (random.nextBoolean()) {
            int set = setToTake();
            same("takeBack " + set, x.takeBack(set), model.takeBack(set));
        } else {
            int set = setToBring();
            same("bringBack " + set, x.bringBack(set), model.bringBack(set));
        }
    }

    private String command() {
        switch (random.nextInt(5)) {
            case 0:
                StringBuilder letters = new StringBuilder();
                for (int i = random.nextInt(8); i >= 0; i--) {
                    letters.append(letter());
                }
                return "+" + random.nextInt(model.count(0) + 2) + ":" + letters + ";";
            case 1:
                int from = random.nextInt(model.count(0) + 1);
                return "-" + from + "," + (from + random.nextInt(6)) + ";";
            case 2:
                return "<" + random.nextInt(model.count(2) + 1) + ";";
            case 3:
                return ">" + random.nextInt(model.count(2) + 1) + ";";
            default:
                return "@" + random.nextInt(model.count(0) + 2) + ";";
        }
    }

    private void runSome() {
        StringBuilder script = new StringBuilder();
        for (int i = random.nextInt(5); i > 0; i--) {
            script.append(command()).append(random.nextInt(4) == 0 ? "  " : "");
        }
        if (random.nextInt(3) == 0 && script.length() > 0) {
            damage(script);
        }
        for (int i = 0; i < script.length(); i++) {
            int code = random.nextInt(300) == 0 ? wild() : script.charAt(i);
            same("appendScript", x.appendScript(code), model.appendScript(code));
        }
        int answer = model.runScript();
        same("runScript '" + script + "'", x.runScript(), answer);
        if (answer < 0) {
            same("clearScript", x.clearScript(), model.clearScript());
        }
    }

    private void damage(StringBuilder script) {
        int at = random.nextInt(script.length());
        String signs = "+-<>@;:, 0129az" + (char) 200;
        switch (random.nextInt(3)) {
            case 0:
                script.deleteCharAt(at);
                break;
            case 1:
                script.insert(at, signs.charAt(random.nextInt(signs.length())));
                break;
            default:
                script.setLength(at);
                break;
        }
    }

    private void snapshots() {
        int slot = rarely() ? wild() : random.nextInt(2);
        switch (random.nextInt(3)) {
            case 0:
                same("save", x.save(slot), model.save(slot));
                break;
            case 1:
                same("restore", x.restore(slot), model.restore(slot));
                break;
            default:
                same("difference", x.difference(slot), model.difference(slot));
                break;
        }
    }

    private void change() {
        if (random.nextBoolean()) {
            int a = upTo(9);
            int b = upTo(9);
            same("setPrices", x.setPrices(a, b), model.setPrices(a, b));
        } else {
            int cursor = place();
            same("setCursor", x.setCursor(cursor), model.setCursor(cursor));
        }
    }

    // ---- questions

    private void ask(int question) {
        int p = place();
        int e = number();
        int f = number();
        int what = upTo(7);
        int set = setToTake();
        switch (question) {
            case 0 -> same("character", x.character(p), model.character(p));
            case 1 -> same("author", x.author(p), model.author(p));
            case 2 -> same("count " + what, x.count(what), model.count(what));
            case 3, 4 -> same("edit " + e + " " + what, x.edit(e, what), model.edit(e, what));
            case 5 -> same("commute", x.commute(e, f), model.commute(e, f));
            case 6 -> same("closure", x.closure(e), model.closure(e));
            case 7 -> same("price " + set, x.price(set), model.price(set));
            case 8, 9 -> same("carried " + set, x.carried(set, p), model.carried(set, p));
            case 10 -> same("loose", x.loose(), model.loose());
            case 11 -> same("opening", x.opening(e), model.opening(e));
            case 12 -> same("run " + (e - 1), x.run(e - 1, what & 1), model.run(e - 1, what & 1));
            case 13 -> same("run part", x.run(e, what), model.run(e, what));
            case 14 -> same("clearing", x.clearing(p, p + what), model.clearing(p, p + what));
            case 15 -> goal();
            default -> moreRarely();
        }
    }

    private void moreRarely() {
        if (random.nextInt(4) == 0) {
            wholeText();
        } else {
            goal();
        }
    }

    private void wholeText() {
        for (int place = 0; place <= model.count(0); place++) {
            same("character " + place, x.character(place), model.character(place));
        }
    }

    private void goal() {
        int kind = upTo(3);
        int value;
        switch (kind) {
            case 0 -> value = upTo(80);
            case 3 -> value = upTo(17);
            default -> value = rarely() ? wild() : letter();
        }
        int[] best = model.best(kind, value);
        same("cheapest " + kind + " " + value, x.cheapest(kind, value), best[0]);
        same("cheapestPrice " + kind + " " + value, x.cheapestPrice(kind, value), best[1]);
    }
}
