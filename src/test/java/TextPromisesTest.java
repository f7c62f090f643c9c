/** Promises 20 to 23: texts. */
public final class TextPromisesTest {
    private static final Checks C = new Checks("TextPromisesTest");
    private static final int INVALID = -1;

    public static void main(String[] args) {
        type();
        clearText();
        faultArguments();
        noFault();
        words();
        missing();
        ranges();
        tooMany();
        noEnd();
        theFirstReason();
        theFirstSegment();
        lay();
        layNotPossible();
        layFull();
        C.close();
    }

    private static void type() {
        C.promise(20);
        CoreMelter x = new CoreMelter();
        int[] wrong = {31, 127, 0, -1, 128, 200, 65568, Integer.MIN_VALUE, Integer.MAX_VALUE};
        for (int w : wrong) {
            C.due("type(" + w + ")", x.type(w), INVALID);
        }
        C.due("nothing typed", x.count(23), 0);
        C.due("type(32)", x.type(32), 1);
        C.due("type(126)", x.type(126), 2);
        for (int i = 3; i <= 100; i++) {
            C.due("character " + i, x.type('a'), i);
        }
        C.due("a 101st", x.type('a'), -3);
        C.due("a wrong 101st", x.type(31), INVALID);
        C.due("length", x.count(23), 100);
        C.due("no change", x.count(22), 0);
    }

    private static void clearText() {
        C.promise(21);
        CoreMelter x = new CoreMelter();
        C.due("empty", x.clearText(), 0);
        Checks.type(x, "ice 1");
        C.due("five", x.clearText(), 5);
        C.due("empty again", x.count(23), 0);
        C.due("empty again", x.clearText(), 0);
        Checks.type(x, "crack 3;");
        C.due("what was is gone", x.fault(1), -4);
        C.due("a new text", x.lay(), 1);
        C.due("states", x.count(22), 1);
    }

    private static void fault(String text, int index, int reason, int number) {
        CoreMelter x = new CoreMelter();
        Checks.type(x, text);
        faultOf(x, "'" + text + "'", index, reason, number);
        C.due("lay() of '" + text + "'", x.lay(), -2);
    }

    private static void faultOf(CoreMelter x, String of, int index, int reason, int number) {
        C.due("fault(0) of " + of, x.fault(0), index);
        C.due("fault(1) of " + of, x.fault(1), reason);
        C.due("fault(2) of " + of, x.fault(2), number);
    }

    private static void fine(String text, int... segments) {
        CoreMelter x = new CoreMelter();
        Checks.type(x, text);
        faultOf(x, "'" + text + "'", -4, -4, -4);
        C.due("lay() of '" + text + "'", x.lay(), segments.length / 4);
        for (int i = 0; i < segments.length; i++) {
            C.due("segment of '" + text + "'", x.segment(i / 4, i % 4), segments[i]);
        }
    }

    private static void faultArguments() {
        C.promise(22);
        CoreMelter x = new CoreMelter();
        C.due("fault(-1)", x.fault(-1), INVALID);
        C.due("fault(3)", x.fault(3), INVALID);
        C.due("fault(MIN)", x.fault(Integer.MIN_VALUE), INVALID);
        faultOf(x, "the empty text", -4, -4, -4);
        x.type('x');
        C.due("fault(3) of a fault", x.fault(3), INVALID);
    }

    private static void noFault() {
        C.promise(22);
        fine("ice 1 60 0;", 0, 1, 60, 0);
        fine("ice 300 92 50;", 0, 300, 92, 50);
        fine("crack 1;", 1, 1, 0, 0);
        fine("crack 300;", 1, 300, 0, 0);
        fine("dust 1 60 1;", 2, 1, 60, 1);
        fine("dust 300 92 100;", 2, 300, 92, 100);
        fine("ice 001 060 000;", 0, 1, 60, 0);
        fine("crack 007;crack 08;crack 9;", 1, 7, 0, 0, 1, 8, 0, 0, 1, 9, 0, 0);
        fine("ice 10 92 0;crack 3;dust 5 60 1;", 0, 10, 92, 0, 1, 3, 0, 0, 2, 5, 60, 1);
    }

    private static void words() {
        C.promise(22);
        for (String text : new String[] {" ", ";", "1", "ic", "icee 1 60 0;", "icea 1 60 0;", "icez 1 60 0;",
            "Ice 1 60 0;", "icE 1 60 0;", "crackice 3;",
            " ice 1 60 0;", "dus", "dusty 1 60 1;", "x", "`", "{", "snow 1 60 0;", "c", "cracks 1;", "cracl 1;"}) {
            fault(text, 0, 1, 0);
        }
        fault("crack 1; crack 1;", 8, 1, 0);
        fault("crack 1;;", 8, 1, 0);
    }

    private static void missing() {
        C.promise(22);
        fault("ice", 0, 2, 1);
        fault("ice;", 0, 2, 1);
        fault("ice10 60 0;", 0, 2, 1);
        fault("ice ", 0, 2, 1);
        fault("ice  10 60 0;", 0, 2, 1);
        fault("ice X", 0, 2, 1);
        fault("ice -1 60 0;", 0, 2, 1);
        fault("ice 10", 0, 2, 2);
        fault("ice 10 ", 0, 2, 2);
        fault("ice 10;", 0, 2, 2);
        fault("ice 10,60 0;", 0, 2, 2);
        fault("ice 1000 60 0;", 0, 2, 2);
        fault("ice 0001 60 0;", 0, 2, 2);
        fault("ice 10 60", 0, 2, 3);
        fault("ice 10 60;", 0, 2, 3);
        fault("ice 10 60 ;", 0, 2, 3);
        fault("ice 10 60 /;", 0, 2, 3);
        fault("ice 10 60 :;", 0, 2, 3);
        fault("ice 10 0600 0;", 0, 2, 3);
        fault("dust 10 60;", 0, 2, 3);
        fault("dust", 0, 2, 1);
        fault("crack", 0, 2, 1);
        fault("crack;", 0, 2, 1);
        fault("crack5;", 0, 2, 1);
    }

    private static void ranges() {
        C.promise(22);
        fault("ice 0 60 0;", 0, 3, 1);
        fault("ice 301 60 0;", 0, 3, 1);
        fault("ice 999 60 0;", 0, 3, 1);
        fault("ice 1 59 0;", 0, 3, 2);
        fault("ice 1 93 0;", 0, 3, 2);
        fault("ice 1 60 51;", 0, 3, 3);
        fault("dust 0 60 1;", 0, 3, 1);
        fault("dust 301 60 1;", 0, 3, 1);
        fault("dust 1 59 1;", 0, 3, 2);
        fault("dust 1 93 1;", 0, 3, 2);
        fault("dust 1 60 0;", 0, 3, 3);
        fault("dust 1 60 101;", 0, 3, 3);
        fault("crack 0;", 0, 3, 1);
        fault("crack 000;", 0, 3, 1);
        fault("crack 301;", 0, 3, 1);
        fault("ice 0 0 99;", 0, 3, 1);
        fault("ice 1 0 99;", 0, 3, 2);
    }

    private static CoreMelter cracks(int many) {
        CoreMelter x = new CoreMelter();
        for (int i = 0; i < many; i++) {
            x.addSegment(1, 1, 0, 0);
        }
        return x;
    }

    private static void tooMany() {
        C.promise(22);
        CoreMelter x = cracks(18);
        Checks.type(x, "crack 1;crack 2;");
        faultOf(x, "two more", -4, -4, -4);
        Checks.type(x, "crack 3;");
        faultOf(x, "three more", 16, 4, 0);
        x.addSegment(1, 1, 0, 0);
        faultOf(x, "the core has grown", 8, 4, 0);
        x.addSegment(1, 1, 0, 0);
        faultOf(x, "the core is full", 0, 4, 0);
        x.undo();
        x.undo();
        faultOf(x, "as it was", 16, 4, 0);
    }

    private static void noEnd() {
        C.promise(22);
        fault("crack 1", 0, 5, 0);
        fault("crack 1 ;", 0, 5, 0);
        fault("crack 1 2;", 0, 5, 0);
        fault("crack 1000;", 0, 5, 0);
        fault("crack 0001;", 0, 3, 1);
        fault("crack 0011;", 0, 5, 0);
        fault("ice 10 60 0", 0, 5, 0);
        fault("ice 10 60 0000;", 0, 5, 0);
        fault("ice 10 60 0 0;", 0, 5, 0);
        fault("dust 10 60 1,", 0, 5, 0);
        fault("crack 1:", 0, 5, 0);
        fault("crack 1;crack 2", 8, 5, 0);
    }

    /** The reasons apply to the segment as a whole, so a missing number stands ahead of a wrong one. */
    private static void theFirstReason() {
        C.promise(22);
        fault("ice 0 60;", 0, 2, 3);
        fault("ice 999", 0, 2, 2);
        fault("crack 0", 0, 3, 1);
        fault("icy 0 0", 0, 1, 0);
        CoreMelter x = cracks(20);
        Checks.type(x, "crack 1");
        faultOf(x, "too many rather than no end", 0, 4, 0);
        x.clearText();
        Checks.type(x, "crack 301");
        faultOf(x, "a range rather than too many", 0, 3, 1);
        x.clearText();
        Checks.type(x, "dust 301");
        faultOf(x, "a missing one rather than too many", 0, 2, 2);
        x.clearText();
        Checks.type(x, "rust");
        faultOf(x, "no word rather than too many", 0, 1, 0);
    }

    private static void theFirstSegment() {
        C.promise(22);
        fault("crack 5;ice 1 60 0;dust 1 60 0;x", 19, 3, 3);
        fault("crack 5;ice 1 60 0;x;dust 1 60 0;", 19, 1, 0);
        fault("crack 5;ice 1 60;x;", 8, 2, 3);
        CoreMelter x = new CoreMelter();
        Checks.type(x, "ice 10 60 0;ice 11");
        faultOf(x, "half a segment", 12, 2, 2);
        Checks.type(x, " 92 50;");
        faultOf(x, "the whole of it", -4, -4, -4);
        x = new CoreMelter();
        for (int i = 0; i < 12; i++) {
            Checks.type(x, "crack 1;");
        }
        Checks.type(x, "ice ");
        C.due("a full text", x.count(23), 100);
        faultOf(x, "a full text", 96, 2, 1);
        x.clearText();
        for (int i = 0; i < 11; i++) {
            Checks.type(x, "crack 1;");
        }
        Checks.type(x, "ice 10 60 0;");
        faultOf(x, "a full text without fault", -4, -4, -4);
        C.due("lay()", x.lay(), 12);
    }

    private static void lay() {
        C.promise(23);
        CoreMelter x = new CoreMelter();
        C.due("an empty text", x.lay(), 0);
        C.due("is a change", x.count(22), 1);
        x.addSegment(0, 10, 80, 0);
        Checks.type(x, "dust 5 60 7;crack 3;ice 9 92 4;");
        C.due("lay()", x.lay(), 3);
        C.segment("laid", x, 0, 0, 10, 80, 0, 0, 0);
        C.segment("laid", x, 1, 2, 5, 60, 7, 10, 0);
        C.segment("laid", x, 2, 1, 3, 0, 0, 15, 0);
        C.segment("laid", x, 3, 0, 9, 92, 4, 18, 0);
        C.counts("laid", x, 8, 4, 27);
        C.due("one change", x.count(22), 3);
        C.due("the text stays", x.count(23), 31);
        C.due("lay() again", x.lay(), 3);
        C.counts("laid twice", x, 8, 7, 44);
        C.due("segmentAt(43)", x.segmentAt(43), 6);
        C.due("waterBelow(44)", x.waterBelow(44), 800 + 2 * (300 + 828));
        C.due("undo()", x.undo(), 3);
        C.counts("undone at once", x, 8, 4, 27);
        x.run(3);
        C.due("lay() above a front", x.lay(), 3);
        C.due("the front stays", x.count(10), 7);
    }

    private static void layNotPossible() {
        C.promise(23);
        CoreMelter x = new CoreMelter();
        Checks.type(x, "crack 3;ice 9 92 4");
        C.due("a fault", x.lay(), -2);
        C.counts("nothing is laid", x, 8, 0, 0);
        C.due("no change", x.count(22), 0);
        x.type(';');
        C.due("without fault", x.lay(), 2);
    }

    private static void layFull() {
        C.promise(23);
        CoreMelter x = cracks(19);
        Checks.type(x, "crack 1;crack 2;");
        C.due("one too many is a fault", x.lay(), -2);
        C.due("nothing is laid", x.count(8), 19);
        x.undo();
        C.due("room for both", x.lay(), 2);
        C.due("full", x.count(8), 20);
        C.due("full: not possible", x.lay(), -2);
        x.clearText();
        C.due("nothing comes on a full core", x.lay(), 0);
    }
}
