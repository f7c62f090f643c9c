/** Compares answers with those that are due, counts them, and tells the wrong ones. */
final class Checks {
    private final String name;
    private int promise;
    private int passed;
    private int failed;

    Checks(String name) {
        this.name = name;
    }

    void promise(int number) {
        promise = number;
    }

    void due(String what, int got, int want) {
        if (got == want) {
            passed++;
            return;
        }
        failed++;
        System.out.println(name + ": promise " + promise + ": " + what + " answered " + got + ", due is " + want);
    }

    /** The counts from number first on, one after the other. */
    void counts(String when, CoreMelter x, int first, int... want) {
        for (int i = 0; i < want.length; i++) {
            due(when + ": count(" + (first + i) + ")", x.count(first + i), want[i]);
        }
    }

    void accounts(String when, CoreMelter x, int... want) {
        for (int i = 0; i < want.length; i++) {
            due(when + ": account(" + i + ")", x.account(i), want[i]);
        }
    }

    void line(String when, CoreMelter x, int line, int... want) {
        for (int i = 0; i < want.length; i++) {
            due(when + ": line(" + line + ", " + i + ")", x.line(line, i), want[i]);
        }
    }

    void vial(String when, CoreMelter x, int vial, int... want) {
        for (int i = 0; i < want.length; i++) {
            due(when + ": vial(" + vial + ", " + i + ")", x.vial(vial, i), want[i]);
        }
    }

    void segment(String when, CoreMelter x, int segment, int... want) {
        for (int i = 0; i < want.length; i++) {
            due(when + ": segment(" + segment + ", " + i + ")", x.segment(segment, i), want[i]);
        }
    }

    void close() {
        System.out.println(name + ": " + passed + " passed, " + failed + " failed");
        if (failed > 0) {
            System.exit(1);
        }
    }

    /** Settings in their order, from the first one on. */
    static void settings(CoreMelter x, int... values) {
        for (int i = 0; i < values.length; i++) {
            x.set(i, values[i]);
        }
    }

    static void type(CoreMelter x, String text) {
        for (int i = 0; i < text.length(); i++) {
            x.type(text.charAt(i));
        }
    }
}
