import java.util.Arrays;
import java.util.LinkedHashMap;
import java.util.Map;
import java.util.function.Consumer;
import java.util.function.Supplier;

/**
 * All that can be told of an object, by parts. To tell a part may spoil the object, and an object is good for 512
 * calls alone: so several objects are made, all alike, and each tells what it can.
 */
final class Parts {
    static final String STATE = "the state";
    static final String REFUSALS = "the counters of reasons";
    static final String TEXT = "the text buffer";
    static final String ERROR = "the latest error";
    static final String OUTPUT = "the output";
    static final String UNDO = "the acts that can be undone";
    static final String SLOTS = "the saved states";

    private final Map<String, String> told = new LinkedHashMap<>();

    private Parts() {
    }

    /** Gives an object, whatever it did, something in each part that a call could spoil. */
    static void fill(HomeworkBarter x) {
        x.save(1);
        x.write(0);
        Check.play(x, "pass 11;");
        Check.putText(x, "pass 2;pass 1;pass");
    }

    /** The parts of an object that was made, filled, and used once more. */
    static Parts of(Supplier<HomeworkBarter> make, Consumer<HomeworkBarter> last) {
        Supplier<HomeworkBarter> ready = () -> {
            HomeworkBarter x = make.get();
            fill(x);
            last.accept(x);
            return x;
        };
        Parts parts = new Parts();
        parts.tellWithoutHarm(ready.get());
        parts.told.put(STATE, Check.state(ready.get()) + Check.answers(ready.get()));
        parts.told.put(UNDO, undoOne(ready.get()) + undoAll(ready.get()));
        parts.told.put(SLOTS, slot(ready.get(), 0) + slot(ready.get(), 1));
        return parts;
    }

    String of(String part) {
        return told.get(part);
    }

    /** A call that may change some parts leaves all others as they are. */
    static void dueSame(String call, Supplier<HomeworkBarter> make, Consumer<HomeworkBarter> run, String... changed) {
        dueSame(call, of(make, x -> { }), of(make, run), changed);
    }

    static void dueSame(String call, Parts before, Parts after, String... changed) {
        for (String part : before.told.keySet()) {
            if (Arrays.asList(changed).contains(part)) continue;
            Check.due(part + " behind " + call, before.of(part), after.of(part));
        }
    }

    private void tellWithoutHarm(HomeworkBarter x) {
        told.put(REFUSALS, Check.refusals(x));
        told.put(ERROR, x.errorCode() + " at " + x.errorPosition());
        told.put(OUTPUT, Check.output(x));
        told.put(TEXT, text(x));
    }

    /** How long the text is, and what a script it is. */
    private static String text(HomeworkBarter x) {
        int length = x.appendText('\n' << 24 | '\n' << 16 | '\n' << 8 | '\n') - 4;
        x.truncateText(length);
        return length + " bytes, done " + x.play() + ", error " + x.errorCode() + " at " + x.errorPosition();
    }

    private static String undoOne(HomeworkBarter x) {
        return x.count(12) + " undo " + x.undo() + ": " + Check.state(x);
    }

    private static String undoAll(HomeworkBarter x) {
        StringBuilder all = new StringBuilder();
        for (int i = 0; i < 7; i++) {
            all.append(" undo ").append(x.undo()).append(' ').append(x.count(1)).append(' ').append(x.count(6));
            all.append(' ').append(x.count(7)).append(' ').append(x.count(9)).append(' ').append(x.tally(7));
        }
        return all.append(Check.state(x)).toString();
    }

    private static String slot(HomeworkBarter x, int slot) {
        try {
            x.restore(slot);
        } catch (IllegalStateException e) {
            return " slot " + slot + " is empty";
        }
        return " slot " + slot + ": " + x.count(12) + " " + Check.state(x);
    }
}
