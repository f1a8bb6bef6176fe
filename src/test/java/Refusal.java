import java.util.List;
import java.util.function.Function;
import java.util.function.Supplier;
import java.util.function.ToIntFunction;

/**
 * A call that is refused answers its code, and no later call shows a trace of it. To see that, an object
 * is held against a twin that was made alike and not asked. No object is used for more than 512 calls, so
 * what can be seen of it is looked at in parts, each on a new pair.
 */
final class Refusal {
    private static final List<Function<PricedUndo, String>> VIEWS =
        List.of(Check::state, Refusal::script, Refusal::snapshots, Refusal::clipAndPrices);

    private Refusal() {
    }

    static void due(String name, Supplier<PricedUndo> make, ToIntFunction<PricedUndo> call, int code) {
        for (Function<PricedUndo, String> view : VIEWS) {
            PricedUndo asked = make.get();
            Check.due(name, call.applyAsInt(asked), code);
            Check.due(name + " leaves", view.apply(asked), view.apply(make.get()));
        }
    }

    private static String textAndCounts(PricedUndo x) {
        StringBuilder seen = new StringBuilder(Check.text(x));
        for (int what = 0; what <= 6; what++) {
            seen.append(" c").append(x.count(what));
        }
        return seen.toString();
    }

    /** What the script does now, and what is left of it. */
    private static String script(PricedUndo x) {
        return x.runScript() + " " + textAndCounts(x) + " " + x.clearScript();
    }

    private static String snapshots(PricedUndo x) {
        StringBuilder seen = new StringBuilder();
        for (int slot = 0; slot < 2; slot++) {
            seen.append(x.difference(slot)).append(' ').append(x.restore(slot)).append(' ').append(textAndCounts(x));
            for (int edit = 0; edit < x.count(2); edit++) {
                seen.append(' ').append(x.edit(edit, 1)).append(x.edit(edit, 5));
            }
        }
        return seen.toString();
    }

    /** The clip as the text of a new buffer; then A and B, as two edits a step apart show them. */
    private static String clipAndPrices(PricedUndo x) {
        StringBuilder seen = new StringBuilder().append(x.begin()).append(' ').append(Check.text(x));
        for (int i = 0; i < 9; i++) {
            x.appendCharacter('.');
        }
        x.begin();
        x.erase(5, 6);
        x.erase(0, 1);
        x.setCursor(4);
        return seen.append(" prices ").append(x.edit(0, 4)).append(' ').append(x.edit(1, 4)).toString();
    }
}
