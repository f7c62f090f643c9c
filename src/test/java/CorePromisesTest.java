/** Promises 1 to 8: the core, its history and the settings. */
public final class CorePromisesTest {
    private static final Checks C = new Checks("CorePromisesTest");
    private static final int INVALID = -1;
    private static final int FAR = Integer.MAX_VALUE;

    public static void main(String[] args) {
        constants();
        newObject();
        addSegment();
        addSegmentLimit();
        segment();
        segmentAt();
        waterBelow();
        renew();
        renewAll();
        undo();
        historyOfAllChanges();
        historyKeepsAll();
        historyKeepsVials();
        set();
        C.close();
    }

    private static void constants() {
        C.promise(1);
        C.due("INVALID_ARGUMENT", CoreMelter.INVALID_ARGUMENT, -1);
        C.due("NOT_POSSIBLE", CoreMelter.NOT_POSSIBLE, -2);
        C.due("LIMIT_REACHED", CoreMelter.LIMIT_REACHED, -3);
        C.due("NOT_FOUND", CoreMelter.NOT_FOUND, -4);
    }

    private static void newObject() {
        C.promise(1);
        CoreMelter x = new CoreMelter();
        C.counts("new", x, 0, 100, 50, 2000, 60, 500, 40, 500, 5);
        C.counts("new", x, 8, 0, 0, 0, 0, 0, 0, 0, 0, 0, 0, 0, 0, 0, 0, 0, 0);
        C.accounts("new", x, 0, 0, 0, 0, 0, 0, 0);
        for (int line = 0; line < 4; line++) {
            C.line("new", x, line, 0, 0, 0, 0, 0);
        }
        C.due("again()", x.again(), 0);
        C.due("segment(0, 0)", x.segment(0, 0), INVALID);
        C.due("vial(0, 0)", x.vial(0, 0), INVALID);
        C.due("undo()", x.undo(), -2);
    }

    private static void addSegment() {
        C.promise(2);
        CoreMelter x = new CoreMelter();
        int[][] wrong = {
            {-1, 1, 60, 1}, {3, 1, 60, 1}, {-1, 1, 60, 0}, {3, 1, 60, 0}, {3, 1, 0, 0}, {FAR, 1, 60, 1}, {Integer.MIN_VALUE, 1, 60, 1},
            {0, 0, 60, 0}, {0, 301, 60, 0}, {0, 1, 59, 0}, {0, 1, 93, 0}, {0, 1, 60, -1}, {0, 1, 60, 51}, {0, 1, 0, 0},
            {1, 0, 0, 0}, {1, 301, 0, 0}, {1, 1, 1, 0}, {1, 1, -1, 0}, {1, 1, 60, 0}, {1, 1, 0, 1}, {1, 1, 0, -1},
            {2, 0, 60, 1}, {2, 301, 60, 1}, {2, 1, 59, 1}, {2, 1, 93, 1}, {2, 1, 60, 0}, {2, 1, 60, 101}, {2, 1, 0, 1},
            {0, -5, 60, 0}, {0, FAR, 60, 0}, {0, 1, FAR, 0}, {2, 1, 60, FAR}};
        for (int[] w : wrong) {
            C.due("addSegment(" + w[0] + ", " + w[1] + ", " + w[2] + ", " + w[3] + ")",
                x.addSegment(w[0], w[1], w[2], w[3]), INVALID);
        }
        C.counts("only errors", x, 8, 0, 0);
        C.due("no change by an error", x.count(22), 0);
        C.due("ice, least", x.addSegment(0, 1, 60, 0), 0);
        C.due("ice, most", x.addSegment(0, 300, 92, 50), 1);
        C.due("crack, least", x.addSegment(1, 1, 0, 0), 2);
        C.due("crack, most", x.addSegment(1, 300, 0, 0), 3);
        C.due("dust, least", x.addSegment(2, 1, 60, 1), 4);
        C.due("dust, most", x.addSegment(2, 300, 92, 100), 5);
        C.counts("six", x, 8, 6, 903);
    }

    private static void addSegmentLimit() {
        C.promise(2);
        CoreMelter x = new CoreMelter();
        for (int i = 0; i < 20; i++) {
            C.due("segment " + i, x.addSegment(i % 2, 300, i % 2 == 0 ? 80 : 0, 0), i);
        }
        C.due("a 21st", x.addSegment(0, 1, 60, 0), -3);
        C.due("a wrong 21st", x.addSegment(0, 1, 59, 0), INVALID);
        C.counts("full", x, 8, 20, 6000);
        C.due("undo()", x.undo(), 4);
        C.counts("one less", x, 8, 19, 5700);
        C.due("the 20th again", x.addSegment(2, 1, 60, 1), 19);
    }

    private static CoreMelter small() {
        CoreMelter x = new CoreMelter();
        x.addSegment(0, 3, 80, 10);
        x.addSegment(1, 7, 0, 0);
        x.addSegment(2, 5, 90, 100);
        return x;
    }

    private static void segment() {
        C.promise(3);
        CoreMelter x = small();
        C.segment("at first", x, 0, 0, 3, 80, 10, 0, 0);
        C.segment("at first", x, 1, 1, 7, 0, 0, 3, 0);
        C.segment("at first", x, 2, 2, 5, 90, 100, 10, 0);
        C.due("segment(-1, 0)", x.segment(-1, 0), INVALID);
        C.due("segment(3, 0)", x.segment(3, 0), INVALID);
        C.due("segment(20, 0)", x.segment(20, 0), INVALID);
        C.due("segment(FAR, 0)", x.segment(FAR, 0), INVALID);
        C.due("segment(0, -1)", x.segment(0, -1), INVALID);
        C.due("segment(0, 6)", x.segment(0, 6), INVALID);
        x.run(1);
        C.due("part of ice", x.segment(0, 5), 2);
        C.due("nothing of the crack", x.segment(1, 5), 0);
        x.run(1);
        C.due("front behind the crack", x.count(10), 11);
        C.due("all of ice", x.segment(0, 5), 3);
        C.due("all of the crack", x.segment(1, 5), 7);
        C.due("part of dust", x.segment(2, 5), 1);
    }

    private static void segmentAt() {
        C.promise(4);
        CoreMelter x = small();
        int[] depths = {0, 2, 3, 9, 10, 14};
        int[] want = {0, 0, 1, 1, 2, 2};
        for (int i = 0; i < depths.length; i++) {
            C.due("segmentAt(" + depths[i] + ")", x.segmentAt(depths[i]), want[i]);
        }
        C.due("segmentAt(15)", x.segmentAt(15), -4);
        C.due("segmentAt(FAR)", x.segmentAt(FAR), -4);
        C.due("segmentAt(-1)", x.segmentAt(-1), INVALID);
        C.due("without a core", new CoreMelter().segmentAt(0), -4);
        C.due("without a core, negative", new CoreMelter().segmentAt(Integer.MIN_VALUE), INVALID);
    }

    private static void waterBelow() {
        C.promise(5);
        CoreMelter x = small();
        int[] depths = {0, 1, 3, 4, 10, 11, 15};
        int[] want = {0, 80, 240, 240, 240, 330, 690};
        for (int i = 0; i < depths.length; i++) {
            C.due("waterBelow(" + depths[i] + ")", x.waterBelow(depths[i]), want[i]);
        }
        C.due("waterBelow(16)", x.waterBelow(16), INVALID);
        C.due("waterBelow(-1)", x.waterBelow(-1), INVALID);
        C.due("waterBelow(FAR)", x.waterBelow(FAR), INVALID);
        C.due("without a core", new CoreMelter().waterBelow(0), 0);
        C.due("without a core", new CoreMelter().waterBelow(1), INVALID);
        x.run(3);
        C.due("melting does not alter it", x.waterBelow(15), 690);
        x = new CoreMelter();
        for (int i = 0; i < 20; i++) {
            x.addSegment(0, 300, 92, 0);
        }
        C.due("of a full core", x.waterBelow(6000), 552000);
        x.undo();
        C.due("of one segment less", x.waterBelow(5700), 524400);
        C.due("above the core", x.waterBelow(5701), INVALID);
    }

    private static void renew() {
        C.promise(6);
        CoreMelter x = new CoreMelter();
        C.due("without a core", x.renew(), 0);
        C.due("it is a change", x.count(22), 1);
        x = new CoreMelter();
        x.addSegment(2, 300, 60, 100);
        Checks.settings(x, 100, 50, 100, 70, 50, 7, 60, 3);
        x.type('i');
        x.run(1);
        x.run(10);
        C.due("stopped by stuck lines", x.count(19), 2);
        C.due("renew()", x.renew(), 4);
        C.counts("renewed", x, 0, 100, 50, 100, 70, 50, 7, 60, 3);
        C.counts("renewed", x, 8, 1, 300, 0, 0, 0, 0, 0, 0, 0, 0, 0, 0, 0, 0, 5, 1);
        C.accounts("renewed", x, 0, 0, 0, 0, 0, 0, 0);
        for (int line = 0; line < 4; line++) {
            C.line("renewed", x, line, 0, 0, 0, 0, 0);
        }
        C.due("no vial is left", x.vial(0, 0), INVALID);
        C.due("vialAt(0)", x.vialAt(0), -4);
        C.due("again()", x.again(), 0);
        C.segment("renewed", x, 0, 2, 300, 60, 100, 0, 0);
        C.due("it melts anew", x.run(1), 2);
        C.vial("renewed and run", x, 0, 120, 2, 0, 1);
    }

    /** Ice with bubbles ahead of clean ice, so that lines have gaps and waste, and the rest is collected. */
    private static CoreMelter bubbling() {
        CoreMelter x = new CoreMelter();
        x.addSegment(0, 1, 80, 50);
        x.addSegment(0, 4, 80, 0);
        x.addSegment(2, 100, 80, 90);
        Checks.settings(x, 200, 50, 300, 45, 500, 40, 100, 9);
        x.run(1);
        x.set(5, 5);
        x.run(2);
        return x;
    }

    private static void renewAll() {
        C.promise(6);
        CoreMelter x = bubbling();
        C.counts("ahead of renew", x, 10, 9, 240, 180, 4, 156, 6, 1, 90, 3, 0, 0);
        C.line("ahead of renew", x, 1, 0, 51, 2, 135, 90);
        C.due("renew()", x.renew(), 9);
        C.counts("renewed", x, 10, 0, 0, 0, 0, 0, 0, 0, 0, 0, 0, 0, 0);
        C.accounts("renewed", x, 0, 0, 0, 0, 0, 0, 0);
        for (int line = 0; line < 4; line++) {
            C.line("renewed", x, line, 0, 0, 0, 0, 0);
        }
        x.set(3, 20);
        C.due("80 of 80 drawn", x.run(1), 1);
        x.renew();
        x.set(3, 19);
        C.due("76 of 80 drawn", x.run(1), 0);
        C.due("but more has melted", x.count(10), 4);
        x = new CoreMelter();
        x.addSegment(0, 9, 61, 0);
        x.set(3, 15);
        x.run(3);
        x.renew();
        C.due("60 of 61 drawn", x.run(1), 0);
    }

    private static void undo() {
        C.promise(7);
        CoreMelter x = new CoreMelter();
        C.due("nothing to undo", x.undo(), -2);
        for (int power = 1; power <= 7; power++) {
            x.set(0, power);
            C.due("states behind " + power, x.count(22), Math.min(power, 5));
        }
        for (int left = 4; left >= 0; left--) {
            C.due("undo()", x.undo(), left);
            C.due("power", x.count(0), left + 2);
            C.due("states", x.count(22), left);
        }
        C.due("the history is empty", x.undo(), -2);
        C.due("power stays", x.count(0), 2);
        x.set(0, 50);
        C.due("undo() of one", x.undo(), 0);
        C.due("power is back", x.count(0), 2);
    }

    private static void historyOfAllChanges() {
        C.promise(7);
        CoreMelter x = new CoreMelter();
        x.set(0, 100);
        C.due("set to the same value is a change", x.count(22), 1);
        x.lay();
        C.due("lay of an empty text is a change", x.count(22), 2);
        x.renew();
        C.due("renew is a change", x.count(22), 3);
        x.run(1);
        C.due("run is a change", x.count(22), 4);
        x.undo();
        x.undo();
        x.undo();
        x.undo();
        x.addSegment(0, 0, 0, 0);
        x.set(8, 0);
        x.clean(0);
        x.clean(4);
        x.run(0);
        x.run(1001);
        x.type('x');
        x.lay();
        x.clearText();
        x.fault(0);
        x.ifRun(3, 0);
        x.ticksTo(3);
        x.flowFor(3);
        x.again();
        C.due("errors, texts and questions are none", x.count(22), 0);
        x.addSegment(0, 10, 80, 0);
        Checks.type(x, "ce 5;");
        x.clearText();
        Checks.type(x, "crack 5;");
        x.lay();
        C.counts("laid", x, 8, 2, 15);
        C.due("undo() of lay", x.undo(), 1);
        C.counts("lay undone", x, 8, 1, 10);
        C.due("the text is not restored", x.count(23), 8);
        x.clearText();
        C.due("undo() of addSegment", x.undo(), 0);
        C.due("nor is a text that was emptied", x.count(23), 0);
        C.counts("no core", x, 8, 0, 0);
    }

    /** Everything that a tick alters comes back. */
    private static void historyKeepsAll() {
        C.promise(7);
        CoreMelter x = new CoreMelter();
        x.addSegment(0, 4, 80, 50);
        x.addSegment(1, 2, 0, 0);
        x.addSegment(2, 100, 70, 90);
        Checks.settings(x, 90, 50, 300, 30, 200, 40, 50, 2);
        x.run(6);
        int[] before = picture(x);
        x.run(40);
        x.clean(0);
        x.renew();
        x.run(3);
        for (int i = 0; i < 4; i++) {
            x.undo();
        }
        asBefore(x, before);
        x.run(40);
        x.clean(0);
        C.due("line 0 was cleaned", x.line(0, 0), 0);
        x.undo();
        C.due("line 0 is stuck again", x.line(0, 0), 1);
        C.due("with its dirt", x.line(0, 1) >= 200 ? 1 : 0, 1);
    }

    private static void historyKeepsVials() {
        C.promise(7);
        CoreMelter x = bubbling();
        int[] before = picture(x);
        C.counts("vials and present vial", x, 16, 1, 90);
        x.renew();
        x.set(3, 15);
        x.set(5, 200);
        x.run(9);
        C.vial("other vials", x, 0, 120, 1, 0, 2);
        for (int i = 0; i < 4; i++) {
            x.undo();
        }
        asBefore(x, before);
        x.addSegment(0, 100, 80, 0);
        x.set(2, 100);
        x.set(3, 1);
        x.run(3);
        C.due("stopped for the stock", x.count(19), 3);
        x.set(2, 20000);
        x.run(1);
        C.due("not stopped", x.count(19), 0);
        x.undo();
        C.due("the reason is back", x.count(19), 3);
    }

    private static void asBefore(CoreMelter x, int[] before) {
        int[] behind = picture(x);
        for (int i = 0; i < before.length; i++) {
            C.due("part " + i + " of the picture", behind[i], before[i]);
        }
    }

    private static int[] picture(CoreMelter x) {
        int[] all = new int[22 + 7 + 20 + 40 * 4];
        int at = 0;
        for (int what = 0; what < 22; what++) {
            all[at++] = x.count(what);
        }
        for (int what = 0; what < 7; what++) {
            all[at++] = x.account(what);
        }
        for (int i = 0; i < 20; i++) {
            all[at++] = x.line(i / 5, i % 5);
        }
        for (int i = 0; i < 160; i++) {
            all[at++] = x.vial(i / 4, i % 4);
        }
        return all;
    }

    private static void set() {
        C.promise(8);
        int[] least = {0, 10, 100, 1, 50, 5, 50, 0};
        int[] most = {200, 200, 20000, 500, 5000, 200, 5000, 50};
        int[] initial = {100, 50, 2000, 60, 500, 40, 500, 5};
        CoreMelter x = new CoreMelter();
        for (int what = 0; what < 8; what++) {
            C.due("below the range of " + what, x.set(what, least[what] - 1), INVALID);
            C.due("above the range of " + what, x.set(what, most[what] + 1), INVALID);
            C.due("far below " + what, x.set(what, Integer.MIN_VALUE), INVALID);
            C.due("far above " + what, x.set(what, FAR), INVALID);
        }
        C.counts("only errors", x, 0, initial);
        C.due("no change by an error", x.count(22), 0);
        for (int what = 0; what < 8; what++) {
            C.due("least of " + what, x.set(what, least[what]), initial[what]);
        }
        C.counts("least", x, 0, least);
        for (int what = 0; what < 8; what++) {
            C.due("most of " + what, x.set(what, most[what]), least[what]);
        }
        C.counts("most", x, 0, most);
        C.due("set(-1, 100)", x.set(-1, 100), INVALID);
        C.due("set(8, 100)", x.set(8, 100), INVALID);
        C.due("set(FAR, 100)", x.set(FAR, 100), INVALID);
    }
}
