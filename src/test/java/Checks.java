import java.util.List;
import java.util.function.Supplier;
import java.util.function.ToIntFunction;

/** Compares answers with those that are due, counts them, and tells the wrong ones. */
final class Checks {
    private final String name;
    private Document document;
    private int promise;
    private String sentence = "";
    private int passed;
    private int failed;

    Checks(String name) {
        this.name = name;
    }

    /** From now on each sentence is looked up in the document that the arguments name, if they name one. */
    void document(String[] args) {
        if (args.length > 0) {
            document = new Document(args[0]);
        }
    }

    void promise(int number) {
        promise = number;
        sentence = "";
    }

    /** Begins the test of one sentence: its promise, and the words of the document that it rests on. */
    void sentence(int number, String words) {
        promise = number;
        sentence = words;
        holds("the document says so", document == null || document.says(number, words));
    }

    void due(String what, int got, int want) {
        holds(what + " answered " + got + ", due is " + want, got == want);
    }

    private void holds(String what, boolean so) {
        if (so) {
            passed++;
            return;
        }
        failed++;
        String words = sentence.isEmpty() ? "" : " (" + sentence + ")";
        System.out.println(name + ": promise " + promise + words + ": " + what);
    }

    /** The counts from number first on, one after the other. */
    void counts(String when, CoreMelter x, int first, int... want) {
        for (int i = 0; i < want.length; i++) {
            due(when + ": count(" + (first + i) + ")", x.count(first + i), want[i]);
        }
    }

    void accounts(String when, CoreMelter x, int... want) {
        for (int i = 0; i < want.length; i++) {
            due(when + ": account(" + i + ")", x.account(i), want[i]);
        }
    }

    void line(String when, CoreMelter x, int line, int... want) {
        for (int i = 0; i < want.length; i++) {
            due(when + ": line(" + line + ", " + i + ")", x.line(line, i), want[i]);
        }
    }

    void vial(String when, CoreMelter x, int vial, int... want) {
        for (int i = 0; i < want.length; i++) {
            due(when + ": vial(" + vial + ", " + i + ")", x.vial(vial, i), want[i]);
        }
    }

    void segment(String when, CoreMelter x, int segment, int... want) {
        for (int i = 0; i < want.length; i++) {
            due(when + ": segment(" + segment + ", " + i + ")", x.segment(segment, i), want[i]);
        }
    }

    void fault(String when, CoreMelter x, int index, int reason, int number) {
        due(when + ": fault(0)", x.fault(0), index);
        due(when + ": fault(1)", x.fault(1), reason);
        due(when + ": fault(2)", x.fault(2), number);
    }

    /** The call gives this answer, and nothing has changed by it, neither now nor in any state of the history. */
    void changesNothing(String what, Supplier<CoreMelter> maker, ToIntFunction<CoreMelter> call, int answer) {
        int states = maker.get().count(22);
        for (int undone = 0; undone <= states; undone++) {
            CoreMelter asked = maker.get();
            due(what, call.applyAsInt(asked), answer);
            CoreMelter other = maker.get();
            for (int i = 0; i < undone; i++) {
                due(what + ", then undo()", asked.undo(), other.undo());
            }
            same(what + ", then undo() times " + undone, asked, other);
        }
    }

    /** Both tell the same of themselves, now and when they have gone on alike. */
    void same(String what, CoreMelter one, CoreMelter other) {
        samePicture(what, one, other);
        due(what + ", then lay()", one.lay(), other.lay());
        due(what + ", then run(2)", one.run(2), other.run(2));
        samePicture(what + ", then lay() and run(2)", one, other);
    }

    private void samePicture(String what, CoreMelter one, CoreMelter other) {
        List<String> got = Picture.of(one);
        List<String> want = Picture.of(other);
        for (int i = 0; i < want.size(); i++) {
            if (i >= got.size() || !got.get(i).equals(want.get(i))) {
                holds(what + ": " + (i < got.size() ? got.get(i) : "nothing") + ", due is " + want.get(i), false);
                return;
            }
        }
        holds(what + ": more than is due", got.size() == want.size());
    }

    void close() {
        System.out.println(name + ": " + passed + " passed, " + failed + " failed");
        if (failed > 0) {
            System.exit(1);
        }
    }

    /** Settings in their order, from the first one on. */
    static void settings(CoreMelter x, int... values) {
        for (int i = 0; i < values.length; i++) {
            x.set(i, values[i]);
        }
    }

    static void type(CoreMelter x, String text) {
        for (int i = 0; i < text.length(); i++) {
            x.type(text.charAt(i));
        }
    }
}
