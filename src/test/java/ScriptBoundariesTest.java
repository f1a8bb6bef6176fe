import java.util.function.Supplier;

/**
 * Promises 22 to 24 and the description of scripts: each sentence that names a smallest or a largest value,
 * something empty or full, or a refused call, at its boundary and on both sides of it.
 */
public final class ScriptBoundariesTest {
    private static final int INVALID = PricedUndo.INVALID_ARGUMENT;
    private static final int FULL = PricedUndo.CAPACITY_EXCEEDED;
    private static final int NO_ERROR = -10;

    public static void main(String[] args) {
        building();
        reading();
        carryingOut();
        Check.finish();
    }

    private static void building() {
        codesOfTheScript();
        scriptOf80();
        codeComesAheadOfRoom();
        clearScriptLengths();
    }

    private static void reading() {
        emptyScript();
        endsWithASemicolon();
        oneToEightLetters();
        lettersAToZ();
        oneOrTwoDigits();
        noLeadingZero();
        digitsOnly();
        firstSignOfACommand();
        signsBetweenNumbers();
        spacesWhereTheyMayStand();
        spacesNowhereElse();
        firstOfSeveralErrors();
        endsInsideOfACommand();
        errorPositionsFrom0To80();
        faultChangesNothing();
        faultyScriptIsKept();
    }

    private static void carryingOut() {
        emptyAfterwards();
        mostCommands();
        inOrder();
        skippedInsertions();
        skippedErasures();
        skippedTakingBack();
        skippedBringingBack();
        skippedCursors();
        skippedCommandsChangeNothing();
        clipStays();
    }

    private static String times(String part, int count) {
        return part.repeat(count);
    }

    private static void append(PricedUndo x, String script) {
        for (char code : script.toCharArray()) {
            x.appendScript(code);
        }
    }

    /** The sample without edit 4 (text abXZdw, five edits), a clip, snapshots, prices, and just this script. */
    private static PricedUndo withScript(String script) {
        PricedUndo x = Scene.sampleWithout(16);
        x.clearScript();
        append(x, script);
        return x;
    }

    private static void fault(String script, int position) {
        Refusal.due("'" + script + "'", () -> withScript(script), PricedUndo::runScript, NO_ERROR - position);
    }

    /** The script has no error; these many of its commands are possible on the sample without edit 4. */
    private static void done(String script, int commands) {
        PricedUndo x = withScript(script);
        Check.due("'" + script + "'", x.runScript(), commands);
        Check.due("what is left of '" + script + "'", x.clearScript(), 0);
    }

    // ---- promises 22 and 23

    private static void codesOfTheScript() {
        Check.sentence("character code, 0 to 255; INVALID_ARGUMENT if character is out of range");
        for (int code : new int[] {-1, 256, '@' + 256, '@' - 256, '@' + 65536, Integer.MIN_VALUE, Integer.MAX_VALUE}) {
            Refusal.due("append " + code, () -> withScript("@1;"), x -> x.appendScript(code), INVALID);
        }
        PricedUndo x = new PricedUndo();
        Check.due("append 0", x.appendScript(0), 1);
        Check.due("append 255", x.appendScript(255), 2);
        Check.due("length", x.clearScript(), 2);
    }

    private static void scriptOf80() {
        Check.sentence("CAPACITY_EXCEEDED if the script has 80 characters");
        PricedUndo x = withScript(times(" ", 76) + "@1;");
        Check.due("the 80th", x.appendScript(' '), 80);
        Refusal.due("the 81st", () -> withScript(times(" ", 77) + "@1;"), y -> y.appendScript(' '), FULL);
        Check.due("all 80 are read", withScript(times(" ", 77) + "@1;").runScript(), 1);
        Check.due("the 80th is read", withScript(times(" ", 79) + "x").runScript(), NO_ERROR - 79);
    }

    private static void codeComesAheadOfRoom() {
        Check.sentence("appendScript: INVALID_ARGUMENT if character is out of range; CAPACITY_EXCEEDED if the script"
            + " has 80 characters");
        for (int code : new int[] {-1, 256}) {
            Refusal.due("a wrong 81st", () -> withScript(times(" ", 80)), x -> x.appendScript(code), INVALID);
        }
    }

    private static void clearScriptLengths() {
        Check.sentence("Makes the script empty. Returns its previous length.");
        for (int length : new int[] {0, 1, 79, 80}) {
            PricedUndo x = withScript(times("x", length));
            Check.due("script of " + length, x.clearScript(), length);
            Check.due("an empty one", x.clearScript(), 0);
            Check.due("it begins anew", x.appendScript('@'), 1);
        }
    }

    // ---- promise 24: reading

    private static void emptyScript() {
        Check.sentence("a sequence of commands, perhaps empty");
        Refusal.due("empty", () -> withScript(""), PricedUndo::runScript, 0);
        Check.due("of a new object", new PricedUndo().runScript(), 0);
        done("@1;", 1);
    }

    private static void endsWithASemicolon() {
        Check.sentence("a sequence of commands, each of which ends with \";\"");
        String[] commands = {"+0:a", "-0,1", "<3", ">4", "@1"};
        for (String command : commands) {
            done(command + ";", 1);
            fault(command, command.length());
            fault(command + ":", command.length());
            fault(command + "@1;", command.length());
        }
        fault(";", 0);
        fault("@1;;", 3);
    }

    private static void oneToEightLetters() {
        Check.sentence("inserts 1 to 8 letters a to z at a gap; the first character that is not allowed where it stands"
            + " (a ninth letter, too)");
        fault("+0:;", 3);
        fault("+10:;", 4);
        for (int size = 1; size <= 8; size++) {
            PricedUndo x = withScript("+0:" + Check.letters(size) + ";");
            Check.due(size + " letters", x.runScript(), 1);
            Check.due("text", Check.text(x), Check.letters(size) + "abXZdw");
            Check.due("size", x.edit(5, 2), size);
        }
        fault("+0:abcdefghi;", 11);
        fault("+0:abcdefghi", 11);
        fault("+10:abcdefghi;", 12);
        fault("+0:abcdefghA;", 11);
    }

    private static void lettersAToZ() {
        Check.sentence("letters a to z");
        done("+0:a;", 1);
        done("+0:z;", 1);
        for (char wrong : new char[] {'a' - 1, 'z' + 1, 'A', 'Z', '0', ' ', 0, 255, 'a' + 128}) {
            fault("+0:" + wrong + ";", 3);
            fault("+0:a" + wrong + ";", 4);
        }
    }

    private static void oneOrTwoDigits() {
        Check.sentence("GAP, FROM, TO, EDIT and CURSOR are numbers of one or two digits");
        done("@0;@6;@10;@99;+0:a;-0,1;-0,10;<3;>3;<10;>99;", 6);
        fault("+:a;", 1);
        fault("+100:a;", 3);
        fault("-,1;", 1);
        fault("-100,1;", 3);
        fault("-0,;", 3);
        fault("-0,100;", 5);
        fault("<;", 1);
        fault("<100;", 3);
        fault(">;", 1);
        fault(">100;", 3);
        fault("@;", 1);
        fault("@100;", 3);
    }

    private static void noLeadingZero() {
        Check.sentence("not beginning with 0 if there are two");
        done("@0;+0:a;-0,1;<0;>0;", 5);
        fault("@00;", 2);
        fault("@01;", 2);
        fault("+09:a;", 2);
        fault("-00,1;", 2);
        fault("-0,01;", 4);
        fault("<04;", 2);
        fault(">04;", 2);
        fault("@000;", 2);
    }

    private static void digitsOnly() {
        Check.sentence("numbers of one or two digits (codes 48 to 57)");
        done("@0;", 1);
        done("@9;", 0);
        for (char wrong : new char[] {'0' - 1, '9' + 1, 'a', '-', '+', 0, 255, '1' + 128}) {
            fault("@" + wrong + ";", 1);
            fault("@1" + wrong + ";", 2);
        }
    }

    private static void firstSignOfACommand() {
        Check.sentence("the first character that is not allowed where it stands (of a command)");
        for (char wrong : new char[] {'+' - 1, '-' - 1, '-' + 1, '<' - 1, '<' + 1, '>' + 1, '@' + 1, 'a', '0', 0, 9, 10, 31, 33, 127, 128, 255}) {
            fault(wrong + "0;", 0);
            fault("@1;" + wrong + "0;", 3);
        }
    }

    private static void signsBetweenNumbers() {
        Check.sentence("\"+\" GAP \":\" LETTERS; \"-\" FROM \",\" TO");
        fault("+0,a;", 2);
        fault("+0;", 2);
        fault("+0a;", 2);
        fault("+12,a;", 3);
        fault("-0:1;", 2);
        fault("-0;", 2);
        fault("-0-1;", 2);
        fault("-10.11;", 3);
        fault("-0,1,2;", 4);
        fault("<0,1;", 2);
        fault(">0:a;", 2);
        fault("@0:a;", 2);
    }

    private static void spacesWhereTheyMayStand() {
        Check.sentence("Spaces (code 32) may stand ahead of the first character of a command and behind its \";\"");
        done(" @1;", 1);
        done("   @1;", 1);
        done("@1; ", 1);
        done("@1;   ", 1);
        done("  @1;  @2; ", 2);
        done("@1;@2;", 2);
        done(times(" ", 80), 0);
    }

    private static void spacesNowhereElse() {
        Check.sentence("and nowhere else");
        String[] commands = {"+10:ab;", "-10,11;", "<10;", ">10;", "@10;"};
        for (String command : commands) {
            for (int at = 1; at < command.length(); at++) {
                fault(command.substring(0, at) + " " + command.substring(at), at);
            }
        }
        for (char blank : new char[] {9, 10, 13, 31, 33, 160}) {
            fault(blank + "@1;", 0);
            fault("@1;" + blank, 3);
        }
    }

    private static void firstOfSeveralErrors() {
        Check.sentence("The script is read from left to right; the error position is the offset (from 0) of the first"
            + " character that is not allowed");
        fault("x@00;", 0);
        fault("@1;@00;x", 5);
        fault("@00", 2);
        fault("@1;x@", 3);
    }

    private static void endsInsideOfACommand() {
        Check.sentence("if the script ends inside of a command, it is its length");
        String[] commands = {"+10:abcdefgh;", "+0:a;", "-10,11;", "-0,1;", "<3;", "<10;", ">4;", "@1;", "@10;"};
        for (String command : commands) {
            for (int length = 1; length < command.length(); length++) {
                fault(command.substring(0, length), length);
                fault("@1; " + command.substring(0, length), 4 + length);
            }
        }
        Check.due("it ends between two commands", withScript("@1;@2;").runScript(), 2);
    }

    private static void errorPositionsFrom0To80() {
        Check.sentence("-10 minus the error position if the script has an error");
        fault("x", 0);
        fault("x" + times(" ", 79), 0);
        fault(times(" ", 79) + "x", 79);
        fault(times(" ", 79) + "@", 80);
        fault(times("@1;", 26) + "@1", 80);
        fault(times("@1;", 26) + "@;", 79);
    }

    private static void faultChangesNothing() {
        Check.sentence("(then nothing changes, and the script is kept)");
        // Each command ahead of the fault would be possible.
        fault("+0:abc;-0,2;<0;>4;@2;x", 21);
        fault("+0:abc;-0,2;<0;>4;@2;@", 22);
    }

    private static void faultyScriptIsKept() {
        Check.sentence("the script is kept");
        PricedUndo x = withScript("+0:kl;@2");
        Check.due("it ends inside of a command", x.runScript(), NO_ERROR - 8);
        Check.due("again", x.runScript(), NO_ERROR - 8);
        Check.due("it goes on", x.appendScript(';'), 9);
        Check.due("it is carried out", x.runScript(), 2);
        Check.due("text", Check.text(x), "klabXZdw");
        Check.due("cursor", x.count(4), 2);
    }

    // ---- promise 24: carrying out

    private static void emptyAfterwards() {
        Check.sentence("Carries out the script, which is empty then.");
        PricedUndo x = withScript("+0:k;@9;");
        Check.due("one of two", x.runScript(), 1);
        Check.due("nothing is left to carry out", x.runScript(), 0);
        Check.due("text", Check.text(x), "kabXZdw");
        Check.due("length", x.clearScript(), 0);
        Check.due("it begins anew", x.appendScript('@'), 1);
        PricedUndo y = withScript("@9;@9;");
        Check.due("none is possible", y.runScript(), 0);
        Check.due("length", y.clearScript(), 0);
    }

    private static void mostCommands() {
        Check.sentence("Returns the number of commands that were carried out");
        done(times("@1;", 26) + "  ", 26);
        done(times("@1;", 25) + "@10; ", 25);
        done(times("@9;", 26), 0);
        // 13 insertions: the 16 edits are full after 11 of them.
        done(times("+0:a;", 13), 11);
    }

    private static void inOrder() {
        Check.sentence("Then the commands are carried out in order");
        PricedUndo x = withScript("@7;+6:k;@7;-0,1;@7;<5;@6;");
        Check.due("but for the first and the third setting of the cursor", x.runScript(), 4);
        Check.due("text", Check.text(x), "bXZdw");
        Check.due("cursor", x.count(4), 5);
    }

    private static int run(PricedUndo x, String script) {
        x.clearScript();
        append(x, script);
        return x.runScript();
    }

    private static void skippedInsertions() {
        Check.sentence("a command that is not possible (that its method would answer with an error code) is skipped: +");
        Check.due("gaps 6 and 7 of 6", withScript("+7:a;+6:b;").runScript(), 1);
        Check.due("the 16th and the 17th edit", run(Scene.withEdits(15), "+0:a;+0:a;"), 1);
        Check.due("53 and 8, 53 and 7", run(Check.begun(Check.letters(53)), "+0:abcdefgh;+0:abcdefg;"), 1);
        Check.due("60 and 1", run(Check.begun(Check.letters(60)), "+0:a;"), 0);
        PricedUndo x = Scene.with156Characters();
        Check.due("156 and 5, 156 and 4, 160 and 1", run(x, "+0:abcde;+0:abcd;+0:a;"), 1);
        Check.due("all characters", x.count(1), 160);
    }

    private static void skippedErasures() {
        Check.sentence("a command that is not possible (that its method would answer with an error code) is skipped: -");
        Check.due("wrong ones", withScript("-0,0;-1,0;-5,5;-6,6;-6,7;-5,7;-0,7;").runScript(), 0);
        Check.due("the last place", withScript("-5,6;").runScript(), 1);
        Check.due("the whole text", withScript("-0,6;").runScript(), 1);
        Check.due("the empty text", withScript("-0,6;-0,1;-0,0;").runScript(), 1);
        Check.due("the 16th and the 17th edit", run(Scene.withEdits(15), "-0,1;-0,1;"), 1);
    }

    private static void skippedTakingBack() {
        Check.sentence("a command that is not possible (that its method would answer with an error code) is skipped: <");
        Check.due("no such edit", withScript("<5;<9;<16;<31;<32;<64;<99;").runScript(), 0);
        Check.due("not active", withScript("<4;").runScript(), 0);
        PricedUndo x = withScript("<0;<1;<2;<3;<3;");
        Check.due("those that rest on it go with it", x.runScript(), 2);
        Check.due("active edits", x.count(3), 0);
        PricedUndo y = Check.begun(Check.letters(60));
        Check.due("61", run(y, "-0,1;+0:a;<0;"), 2);
        Check.due("length", y.count(0), 60);
        Check.due("just 60", run(y, "<1;<0;"), 2);
        Check.due("of a new object", run(new PricedUndo(), "<0;"), 0);
        Check.due("the last of 16", run(Scene.withEdits(16), "<15;"), 1);
    }

    private static void skippedBringingBack() {
        Check.sentence("a command that is not possible (that its method would answer with an error code) is skipped: >");
        Check.due("no such edit", withScript(">5;>9;>16;>31;>32;>64;>99;").runScript(), 0);
        Check.due("active", withScript(">0;>3;").runScript(), 0);
        PricedUndo x = withScript("<0;>2;>0;>1;>1;");
        Check.due("what it needs comes with it", x.runScript(), 3);
        Check.due("active edits", x.count(3), 4);
        PricedUndo y = Check.begun(Check.letters(59));
        Check.due("61", run(y, "+0:a;<0;+0:b;>0;"), 3);
        Check.due("length", y.count(0), 60);
        Check.due("just 60", run(y, "<1;>0;"), 2);
        Check.due("of a new object", run(new PricedUndo(), ">0;"), 0);
    }

    private static void skippedCursors() {
        Check.sentence("a command that is not possible (that its method would answer with an error code) is skipped: @");
        PricedUndo x = withScript("@6;@7;");
        Check.due("6 and 7 of 6", x.runScript(), 1);
        Check.due("cursor", x.count(4), 6);
        Check.due("0 of nothing", run(new PricedUndo(), "@0;@1;"), 1);
        Check.due("60 and 61 of 60", run(Check.begun(Check.letters(60)), "@61;@60;"), 1);
    }

    private static void skippedCommandsChangeNothing() {
        Check.sentence("A method that returns an error code changes nothing. (as a command)");
        Supplier<PricedUndo> make = () -> {
            PricedUndo x = withScript("");
            Check.due("no script", x.runScript(), 0);
            return x;
        };
        Refusal.due("none is possible", make, x -> run(x, "+7:a;-3,3;-0,7;<4;<5;>3;>5;@7;"), 0);
    }

    private static void clipStays() {
        Check.sentence("The clip stays as it is.");
        for (int length : new int[] {0, 8, 9, 60}) {
            PricedUndo x = Check.begun("ab");
            Check.clip(x, Check.letters(length).toUpperCase());
            Check.due("insert", run(x, "+1:xyz;+9:k;"), 1);
            Check.due("text", Check.text(x), "axyzb");
            Check.due("begin with the clip", x.begin(), length);
            Check.due("text", Check.text(x), Check.letters(length).toUpperCase());
        }
    }
}
