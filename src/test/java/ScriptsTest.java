/** Promises 22 to 24: building a script, reading it, and carrying it out. */
public final class ScriptsTest {
    private static final int INVALID = PricedUndo.INVALID_ARGUMENT;
    private static final int FULL = PricedUndo.CAPACITY_EXCEEDED;

    public static void main(String[] args) {
        appendScript();
        clearScript();
        errorPositions();
        endsInsideOfACommand();
        spaces();
        faultyScriptChangesNothing();
        commands();
        skippedCommands();
        clipStays();
        Check.finish();
    }

    // Promise 22
    private static void appendScript() {
        PricedUndo x = new PricedUndo();
        Check.due("append -1", x.appendScript(-1), INVALID);
        Check.due("append 256", x.appendScript(256), INVALID);
        Check.due("append greatest", x.appendScript(Integer.MAX_VALUE), INVALID);
        Check.due("append 0", x.appendScript(0), 1);
        Check.due("append 255", x.appendScript(255), 2);
        for (int i = 3; i <= 80; i++) {
            Check.due("append", x.appendScript(' '), i);
        }
        Check.due("append the 81st", x.appendScript(' '), FULL);
        Check.due("append a wrong 81st", x.appendScript(256), INVALID);
        Check.due("length", x.clearScript(), 80);
    }

    // Promise 23
    private static void clearScript() {
        PricedUndo x = new PricedUndo();
        x.appendScript('<');
        x.appendScript('0');
        Check.due("clearScript", x.clearScript(), 2);
        Check.due("clearScript again", x.clearScript(), 0);
        Check.due("runScript", x.runScript(), 0);
        Check.due("append", x.appendScript(';'), 1);
        Check.due("only what is new", x.runScript(), -10);
    }

    // Promise 24
    private static void errorPositions() {
        error("x", 0);
        error(";", 0);
        error("  x", 2);
        error("<0;;", 3);
        error("<0; ;", 4);
        error("+", 1);
        error("+a", 1);
        error("+:a;", 1);
        error("+0;", 2);
        error("+0,a;", 2);
        error("+00:a;", 2);
        error("+01:a;", 2);
        error("+100:a;", 3);
        error("+10:;", 4);
        error("+0:A;", 3);
        error("+0:a1;", 4);
        error("+0:`;", 3);
        error("+0:{;", 3);
        error("+0:abcdefghi;", 11);
        error("+0:abcdefgh ;", 11);
        error("-1;", 2);
        error("-1:2;", 2);
        error("-1,;", 3);
        error("-1,02;", 4);
        error("-1,200;", 5);
        error("-12,34,;", 6);
        error("-,2;", 1);
        error("--1;", 1);
        error("<;", 1);
        error("<-1;", 1);
        error("<1,2;", 2);
        error(">1:a;", 2);
        error(">00;", 2);
        error("@123;", 3);
        error("@/;", 1);
        error("@:;", 1);
        error("@1;#", 3);
        error("+0:a;\t", 5);
        error("+0:a;" + (char) 255, 5);
        error("" + (char) 0, 0);
        // The second fault does not count.
        error("<0;x<00;", 3);
    }

    private static void endsInsideOfACommand() {
        String[] commands = {"+10:abcdefgh;", "-12,34;", "<5;", ">15;", "@60;", "  +0:a;<0;-9,10;"};
        for (String command : commands) {
            boolean inside = false;
            for (int length = 0; length < command.length(); length++) {
                if (inside) {
                    error(command.substring(0, length), length);
                }
                char last = command.charAt(length);
                inside = last != ';' && last != ' ';
            }
        }
        String full = "                                                                             +1:";
        error(full, 80);
    }

    private static void error(String script, int position) {
        PricedUndo x = Check.begun("abc");
        Check.due("'" + script + "'", Check.script(x, script), -10 - position);
        Check.due("'" + script + "' is kept", x.clearScript(), script.length());
    }

    private static void spaces() {
        done("", 0);
        done("   ", 0);
        done("  @1;", 1);
        done("@1;  ", 1);
        done(" @1;  @2; @3;@0; ", 4);
        error("@ 1;", 1);
        error("@1 ;", 2);
        error("+ 0:a;", 1);
        error("+0 :a;", 2);
        error("+0: a;", 3);
        error("+0:a b;", 4);
        error("+0:a ;", 4);
        error("-0, 1;", 3);
        error("-0 ,1;", 2);
        error("-0,1 ;", 4);
        error("@1 0;", 2);
    }

    private static void done(String script, int commands) {
        PricedUndo x = Check.begun("abc");
        Check.due("'" + script + "'", Check.script(x, script), commands);
        Check.due("'" + script + "' is empty then", x.clearScript(), 0);
    }

    private static void faultyScriptChangesNothing() {
        PricedUndo x = Check.begun("abc");
        Check.insert(x, 1, "X");
        String before = Check.state(x);
        Check.due("a fault at the end", Check.script(x, "+0:q;-0,1;<0;@2;+0:q"), -30);
        Check.due("nothing changed", Check.state(x), before);
        Check.due("it can go on", x.appendScript(';'), 21);
        Check.due("and is carried out", x.runScript(), 5);
        Check.due("text", Check.text(x), "qabc");
    }

    private static void commands() {
        PricedUndo x = Check.begun("abcdefghijkl");
        Check.due("insert", Check.script(x, "+12:xyz;"), 1);
        Check.due("text", Check.text(x), "abcdefghijklxyz");
        Check.due("author", x.author(14), 0);
        Check.due("erase", Check.script(x, "-10,13;"), 1);
        Check.due("text", Check.text(x), "abcdefghijyz");
        Check.due("rests", x.edit(1, 5), 1);
        Check.due("cursor", Check.script(x, "@11;"), 1);
        Check.due("cursor", x.count(4), 11);
        Check.due("take back the closure", Check.script(x, "<0;"), 1);
        Check.due("both", x.count(3), 0);
        Check.due("text", Check.text(x), "abcdefghijkl");
        Check.due("bring back the opening", Check.script(x, ">1;"), 1);
        Check.due("both", x.count(3), 2);
        Check.due("text", Check.text(x), "abcdefghijyz");
        Check.due("in order", Check.script(x, "+0:q;<2;+0:rr;>2;-0,1;@0;@12;"), 7);
        Check.due("text", Check.text(x), "rqabcdefghijyz");
        Check.due("cursor", x.count(4), 12);
        Check.due("8 letters", Check.script(x, "+0:abcdefgh;"), 1);
        Check.due("size", x.edit(5, 2), 8);
        Check.due("26 short commands", Check.script(x, "@0;@1;@0;@1;@0;@1;@0;@1;@0;@1;@0;@1;@0;"
            + "@1;@0;@1;@0;@1;@0;@1;@0;@1;@0;@1;@0;@1;  "), 26);
    }

    private static void skippedCommands() {
        PricedUndo x = Check.begun("abc");
        Check.due("none is possible", Check.script(x, "+4:a;-1,1;-2,1;-0,4;<0;>0;@4;<16;>31;<32;>99;@99;"), 0);
        Check.due("text", Check.text(x), "abc");
        Check.due("no edits", x.count(2), 0);
        Check.due("0 is a number, but no stretch ends there", Check.script(x, "-0,0;@0;"), 1);
        Check.due("the others are carried out", Check.script(x, "<0;+3:xy;>0;<0;<0;@4;@3;>0;"), 4);
        Check.due("text", Check.text(x), "abcxy");
        Check.due("cursor", x.count(4), 3);

        // Nothing is taken or brought back where the text would have no room.
        PricedUndo y = Check.begun(Check.letters(60));
        Check.due("no room", Check.script(y, "-0,8;+0:abcdefgh;<0;<1;<0;>1;+0:a;"), 4);
        Check.due("length", y.count(0), 60);
        Check.due("edit 0", y.edit(0, 1), 0);
        Check.due("edit 1", y.edit(1, 1), 0);

        PricedUndo z = Check.begun("");
        for (int i = 0; i < 16; i++) {
            Check.insert(z, 0, "a");
        }
        Check.due("16 edits", Check.script(z, "+0:a;-0,1;@16;"), 1);
    }

    private static void clipStays() {
        PricedUndo x = Check.begun("abc");
        Check.clip(x, "123456789");
        Check.due("insert", Check.script(x, "+0:x;"), 1);
        Check.due("clip", x.count(5), 9);
        Check.due("begin", x.begin(), 9);
        Check.due("text", Check.text(x), "123456789");
    }
}
