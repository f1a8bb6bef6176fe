/** What the tests share: comparing answers, and the steps that take many calls. */
final class Check {
    private static int wrong = 0;
    private static int asked = 0;
    private static String sentence = "";

    private Check() {
    }

    /** Names the sentence of the document to which the answers from here on belong. */
    static void sentence(String words) {
        sentence = "\"" + words + "\": ";
    }

    static void due(String call, long got, long want) {
        asked++;
        if (got != want) {
            wrong++;
            System.out.println(sentence + call + " answered " + got + ", due is " + want);
        }
    }

    static void due(String call, String got, String want) {
        asked++;
        if (!got.equals(want)) {
            wrong++;
            System.out.println(sentence + call + " answered \"" + got + "\", due is \"" + want + "\"");
        }
    }

    static void finish() {
        System.out.println(asked + " answers, " + wrong + " not as due");
        if (wrong != 0) {
            System.exit(1);
        }
    }

    static void clip(PricedUndo x, String text) {
        int before = x.count(5);
        for (int i = 0; i < text.length(); i++) {
            due("appendCharacter", x.appendCharacter(text.charAt(i)), before + i + 1);
        }
    }

    static PricedUndo begun(String text) {
        PricedUndo x = new PricedUndo();
        begin(x, text);
        return x;
    }

    static void begin(PricedUndo x, String text) {
        clip(x, text);
        due("begin", x.begin(), text.length());
    }

    static int insert(PricedUndo x, int gap, String text) {
        clip(x, text);
        return x.insert(gap);
    }

    static int script(PricedUndo x, String text) {
        x.clearScript();
        for (int i = 0; i < text.length(); i++) {
            due("appendScript", x.appendScript(text.charAt(i)), i + 1);
        }
        return x.runScript();
    }

    static String text(PricedUndo x) {
        StringBuilder text = new StringBuilder();
        int code = x.character(0);
        for (int place = 1; code >= 0; place++) {
            text.append((char) code);
            code = x.character(place);
        }
        return text.toString();
    }

    static String letters(int count) {
        StringBuilder text = new StringBuilder();
        for (int i = 0; i < count; i++) {
            text.append((char) ('a' + i % 26));
        }
        return text.toString();
    }

    /** All that count() and edit() tell, and the text with its authors: what an error must leave as it is. */
    static String state(PricedUndo x) {
        StringBuilder state = new StringBuilder(text(x));
        for (int place = 0; place < x.count(0); place++) {
            state.append(' ').append(x.author(place));
        }
        for (int what = 0; what <= 6; what++) {
            state.append(" c").append(x.count(what));
        }
        for (int edit = 0; edit < x.count(2); edit++) {
            for (int what = 0; what <= 6; what++) {
                state.append(" e").append(x.edit(edit, what));
            }
        }
        return state.toString();
    }
}
