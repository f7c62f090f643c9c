/** Promises 20 to 23: one test for each sentence of the document that names an edge. */
public final class TextBoundaryTest {
    private static final Checks C = new Checks("TextBoundaryTest");
    private static final int INVALID = -1;
    private static final int MIN = Integer.MIN_VALUE;
    private static final int MAX = Integer.MAX_VALUE;

    public static void main(String[] args) {
        C.document(args);
        type();
        clearText();
        faultCall();
        words();
        numbers();
        ranges();
        places();
        order();
        lay();
        C.close();
    }

    private static CoreMelter typed(String text) {
        CoreMelter x = new CoreMelter();
        Checks.type(x, text);
        return x;
    }

    private static void fault(String text, int index, int reason, int number) {
        C.fault("'" + text + "'", typed(text), index, reason, number);
        C.changesNothing("lay() of '" + text + "'", () -> typed(text), CoreMelter::lay, -2);
    }

    private static void fine(String text, int... segments) {
        CoreMelter x = typed(text);
        C.fault("'" + text + "'", x, -4, -4, -4);
        C.due("lay() of '" + text + "'", x.lay(), segments.length / 4);
        for (int i = 0; i < segments.length; i++) {
            C.due("'" + text + "': segment(" + i / 4 + ", " + i % 4 + ")", x.segment(i / 4, i % 4), segments[i]);
        }
    }

    // ---- promise 20

    private static void type() {
        charactersToType();
        theHundredthCharacter();
        wrongCharacterInAFullText();
        lengthOfTheText();
    }

    private static void charactersToType() {
        C.sentence(20, "`character`: its code, 32 to 126");
        CoreMelter x = new CoreMelter();
        C.due("type(32)", x.type(32), 1);
        C.due("type(126)", x.type(126), 2);
        int[] wrong = {31, 127, 0, -1, 10, 128, 255, 256 + 97, 65536 + 97, -65536 + 97, MIN, MAX};
        for (int character : wrong) {
            C.changesNothing("type(" + character + ")", States::busy, y -> y.type(character), INVALID);
            C.due("into an empty text", new CoreMelter().type(character), INVALID);
        }
    }

    private static CoreMelter hundred() {
        CoreMelter x = new CoreMelter();
        for (int i = 0; i < 100; i++) {
            x.type('a');
        }
        return x;
    }

    private static void theHundredthCharacter() {
        C.sentence(20, "LIMIT_REACHED if the text has 100 characters");
        CoreMelter x = new CoreMelter();
        for (int i = 1; i <= 100; i++) {
            C.due("character " + i, x.type(';'), i);
        }
        C.due("length", x.count(23), 100);
        C.changesNothing("a 101st", TextBoundaryTest::hundred, y -> y.type('a'), -3);
        C.changesNothing("a 101st of a busy one", States::full, y -> y.type('1'), -3);
        x.clearText();
        C.due("the first again", x.type('a'), 1);
    }

    private static void wrongCharacterInAFullText() {
        C.sentence(20, "INVALID_ARGUMENT is returned rather than NOT_POSSIBLE, NOT_POSSIBLE rather than LIMIT_REACHED");
        for (int character : new int[] {31, 127, MIN, MAX}) {
            C.changesNothing("type(" + character + ")", States::full, x -> x.type(character), INVALID);
        }
    }

    private static void lengthOfTheText() {
        C.sentence(20, "Returns the length of the text");
        CoreMelter x = typed("crack 1");
        C.due("appended", x.type(';'), 8);
        C.fault("it is at its end", x, -4, -4, -4);
        C.due("no change", x.count(22), 0);
    }

    // ---- promise 21

    private static void clearText() {
        C.sentence(21, "Empties the text.");
        C.due("an empty one", new CoreMelter().clearText(), 0);
        C.due("a single character", typed("x").clearText(), 1);
        CoreMelter x = hundred();
        C.due("a full one", x.clearText(), 100);
        C.due("the length", x.count(23), 0);
        C.fault("it has no fault", x, -4, -4, -4);
        C.due("once more", x.clearText(), 0);
        Checks.type(x, "crack 1");
        C.fault("nothing is left of what was", x, 0, 5, 0);
        C.sentence(21, "Returns the length it had.");
        x = States.busy();
        C.due("17", x.clearText(), 17);
        C.due("it is no change", x.count(22), 5);
        C.due("undo()", x.undo(), 4);
        C.due("the text is not restored", x.count(23), 0);
    }

    // ---- promise 22: the call

    private static void faultCall() {
        whatOfAFault();
        noFault();
    }

    private static void whatOfAFault() {
        C.sentence(22, "`what`: 0: its index; 1: its reason; 2: its number");
        C.fault("busy", States.busy(), 8, 2, 3);
        for (int what : new int[] {-1, 3, 4, MIN, MAX}) {
            C.changesNothing("fault(" + what + ")", States::busy, x -> x.fault(what), INVALID);
            C.due("of an empty text", new CoreMelter().fault(what), INVALID);
            C.due("without fault", typed("crack 1;").fault(what), INVALID);
        }
    }

    private static void noFault() {
        C.sentence(22, "NOT_FOUND if the text has no fault (also if it is empty)");
        C.fault("the empty text", new CoreMelter(), -4, -4, -4);
        C.fault("one segment", typed("crack 1;"), -4, -4, -4);
        C.fault("one character less", typed("crack 1"), 0, 5, 0);
        C.changesNothing("the empty text", () -> States.cracks(20), x -> x.fault(0), -4);
        CoreMelter x = typed("x");
        C.fault("a fault", x, 0, 1, 0);
        x.clearText();
        C.fault("emptied", x, -4, -4, -4);
    }

    // ---- promise 22: words

    private static void words() {
        theThreeWords();
        noSuchWord();
        allTheSmallLetters();
        signsBesideTheSmallLetters();
    }

    private static void theThreeWords() {
        C.sentence(22, "\"ice\", \"crack\" or \"dust\" (a word is all the small letters that stand there)");
        fine("ice 7 61 2;", 0, 7, 61, 2);
        fine("crack 7;", 1, 7, 0, 0);
        fine("dust 7 61 2;", 2, 7, 61, 2);
    }

    private static void noSuchWord() {
        C.sentence(22, "its reason is 1 if there is no such word");
        for (String text : new String[] {"i", "ic", "c", "crac", "d", "dus", "x", "ci", "sice 1 60 0;", "snow 1 60 0;"}) {
            fault(text, 0, 1, 0);
        }
        for (String text : new String[] {";", " ", "1", " ice 1 60 0;", "Ice 1 60 0;", "ICE 1 60 0;", "~", "0ice 1 60 0;"}) {
            fault(text, 0, 1, 0);
        }
    }

    private static void allTheSmallLetters() {
        C.sentence(22, "(a word is all the small letters that stand there)");
        for (String text : new String[] {"icea 1 60 0;", "icez 1 60 0;", "icem", "iceice 1 60 0;", "cracka 1;", "crackz 1;",
            "dusta 1 60 1;", "dustz 1 60 1;", "crackcrack 1;", "icecrack 1;"}) {
            fault(text, 0, 1, 0);
        }
    }

    private static void signsBesideTheSmallLetters() {
        C.sentence(22, "(a word is all the small letters that stand there)");
        for (String text : new String[] {"ice` 1 60 0;", "ice{ 1 60 0;", "iceA 1 60 0;", "iceZ 1 60 0;", "ice1 60 0;"}) {
            fault(text, 0, 2, 1);
        }
        fault("ic`e 1 60 0;", 0, 1, 0);
        fault("ic{e 1 60 0;", 0, 1, 0);
    }

    // ---- promise 22: numbers

    private static void numbers() {
        howManyNumbers();
        oneBlankAhead();
        noDigit();
        oneToThreeDigits();
        zerosAhead();
        aFourthDigit();
    }

    private static void howManyNumbers() {
        C.sentence(22, "the length, for ice the density and the bubbles, for dust the density and the dirt");
        fault("ice", 0, 2, 1);
        fault("ice 1", 0, 2, 2);
        fault("ice 1 60", 0, 2, 3);
        fault("ice 1 60 0", 0, 5, 0);
        fine("ice 1 60 0;", 0, 1, 60, 0);
        fault("ice 1 60 0 0;", 0, 5, 0);
        fault("dust", 0, 2, 1);
        fault("dust 1", 0, 2, 2);
        fault("dust 1 60", 0, 2, 3);
        fine("dust 1 60 1;", 2, 1, 60, 1);
        fault("dust 1 60 1 1;", 0, 5, 0);
        fault("crack", 0, 2, 1);
        fine("crack 1;", 1, 1, 0, 0);
        fault("crack 1 0;", 0, 5, 0);
        fault("crack 1 0 0;", 0, 5, 0);
    }

    private static void oneBlankAhead() {
        C.sentence(22, "and its numbers, each with one blank ahead of it");
        fault("crack1;", 0, 2, 1);
        fault("crack  1;", 0, 2, 1);
        fault("crack,1;", 0, 2, 1);
        fault("ice1 60 0;", 0, 2, 1);
        fault("ice  1 60 0;", 0, 2, 1);
        fault("ice 1  60 0;", 0, 2, 2);
        fault("ice 1,60 0;", 0, 2, 2);
        fault("ice 1 60  0;", 0, 2, 3);
        fault("ice 1 60.0;", 0, 2, 3);
        fault("crack 1 ;", 0, 5, 0);
    }

    private static void noDigit() {
        C.sentence(22, "2 if a number or the blank ahead of it is missing");
        fault("crack ", 0, 2, 1);
        fault("crack ;", 0, 2, 1);
        fault("crack /;", 0, 2, 1);
        fault("crack :;", 0, 2, 1);
        fault("crack -1;", 0, 2, 1);
        fault("ice 1 ", 0, 2, 2);
        fault("ice 1 x", 0, 2, 2);
        fault("ice 1 60 ", 0, 2, 3);
        fault("ice 1 60 ;", 0, 2, 3);
        fault("dust 1 60 x;", 0, 2, 3);
    }

    private static void oneToThreeDigits() {
        C.sentence(22, "A number has 1 to 3 digits");
        fine("crack 1;crack 12;crack 123;", 1, 1, 0, 0, 1, 12, 0, 0, 1, 123, 0, 0);
        fine("crack 9;crack 10;crack 99;crack 100;", 1, 9, 0, 0, 1, 10, 0, 0, 1, 99, 0, 0, 1, 100, 0, 0);
        fine("dust 290 78 100;", 2, 290, 78, 100);
        fault("crack 1/;", 0, 5, 0);
        fault("crack 1:;", 0, 5, 0);
        fault("crack 12/;", 0, 5, 0);
    }

    private static void zerosAhead() {
        C.sentence(22, "zeros may stand ahead, a fourth digit is no part of it, but what follows");
        fine("crack 001;crack 01;crack 020;", 1, 1, 0, 0, 1, 1, 0, 0, 1, 20, 0, 0);
        fine("ice 001 060 000;", 0, 1, 60, 0);
        fine("ice 003 61 00;", 0, 3, 61, 0);
        fault("crack 000;", 0, 3, 1);
        fault("crack 00;", 0, 3, 1);
    }

    private static void aFourthDigit() {
        C.sentence(22, "a fourth digit is no part of it, but what follows");
        fault("crack 1000;", 0, 5, 0);
        fault("crack 0011;", 0, 5, 0);
        fault("crack 0001;", 0, 3, 1);
        fault("crack 3000;", 0, 5, 0);
        fault("crack 3010;", 0, 3, 1);
        fault("ice 1000 60 0;", 0, 2, 2);
        fault("ice 1 0600 0;", 0, 2, 3);
        fault("ice 1 60 0000;", 0, 5, 0);
        fault("dust 1 60 1000;", 0, 5, 0);
    }

    // ---- promise 22: ranges

    private static void ranges() {
        outOfRange();
        lengthsInTexts();
        densitiesInTexts();
        bubblesAndDirtInTexts();
        theFirstOutOfItsRange();
        noNumberBehindOne();
    }

    private static void outOfRange() {
        C.sentence(22, "3 if a number is out of its range");
        fault("crack 0;", 0, 3, 1);
        fine("crack 1;", 1, 1, 0, 0);
        fine("crack 300;", 1, 300, 0, 0);
        fault("crack 301;", 0, 3, 1);
        fault("crack 1;crack 999;crack 1;", 8, 3, 1);
    }

    private static void lengthsInTexts() {
        C.sentence(22, "A segment has a length (1 to 300)");
        fine("ice 1 60 0;ice 300 60 0;", 0, 1, 60, 0, 0, 300, 60, 0);
        fine("crack 1;crack 300;", 1, 1, 0, 0, 1, 300, 0, 0);
        fine("dust 1 60 1;dust 300 60 1;", 2, 1, 60, 1, 2, 300, 60, 1);
        for (String length : new String[] {"0", "301", "999"}) {
            fault("ice " + length + " 60 0;", 0, 3, 1);
            fault("crack " + length + ";", 0, 3, 1);
            fault("dust " + length + " 60 1;", 0, 3, 1);
        }
    }

    private static void densitiesInTexts() {
        C.sentence(22, "0 ice with a density (60 to 92) and bubbles (0 to 50)");
        fine("ice 1 60 0;ice 1 92 0;", 0, 1, 60, 0, 0, 1, 92, 0);
        fault("ice 1 59 0;", 0, 3, 2);
        fault("ice 1 93 0;", 0, 3, 2);
        fault("ice 1 0 0;", 0, 3, 2);
        C.sentence(22, "2 dust with a density (60 to 92) and a dirt (1 to 100)");
        fine("dust 1 60 1;dust 1 92 1;", 2, 1, 60, 1, 2, 1, 92, 1);
        fault("dust 1 59 1;", 0, 3, 2);
        fault("dust 1 93 1;", 0, 3, 2);
    }

    private static void bubblesAndDirtInTexts() {
        C.sentence(22, "0 ice with a density (60 to 92) and bubbles (0 to 50)");
        fine("ice 1 60 0;ice 1 60 50;", 0, 1, 60, 0, 0, 1, 60, 50);
        fault("ice 1 60 51;", 0, 3, 3);
        fault("ice 1 60 100;", 0, 3, 3);
        C.sentence(22, "2 dust with a density (60 to 92) and a dirt (1 to 100)");
        fine("dust 1 60 1;dust 1 60 100;", 2, 1, 60, 1, 2, 1, 60, 100);
        fault("dust 1 60 0;", 0, 3, 3);
        fault("dust 1 60 101;", 0, 3, 3);
    }

    private static void theFirstOutOfItsRange() {
        C.sentence(22, "which number is missing, or is the first one out of its range, from 1 on; otherwise 0");
        fault("ice 0 0 99;", 0, 3, 1);
        fault("ice 1 0 99;", 0, 3, 2);
        fault("ice 1 60 99;", 0, 3, 3);
        fault("ice 0 60 99;", 0, 3, 1);
        fault("dust 0 60 0;", 0, 3, 1);
        fault("dust 9 59 0;", 0, 3, 2);
        fault("rust", 0, 1, 0);
        fault("crack 1", 0, 5, 0);
    }

    private static void noNumberBehindOne() {
        C.sentence(22, "or is the first one out of its range, from 1 on; otherwise 0");
        for (String text : new String[] {"rust", "crack 1", "crack 1;;"}) {
            CoreMelter x = typed("ice 1 60 51;");
            C.due("a number", x.fault(2), 3);
            x.clearText();
            Checks.type(x, text);
            C.due("none of '" + text + "'", x.fault(2), 0);
        }
    }

    // ---- promise 22: where the fault is

    private static void places() {
        theFirstCharacterOfTheSegment();
        theLastCharacterOfAFullText();
        segmentsOfTheCoreAreCounted();
        eachIsFollowed();
        theEndOfASegment();
    }

    private static void theFirstCharacterOfTheSegment() {
        C.sentence(22, "The fault of the text is the index of the first character of the first segment that is not possible");
        fault("x", 0, 1, 0);
        fault("crack 1;x", 8, 1, 0);
        fault("crack 1;;", 8, 1, 0);
        fault("crack 1; crack 1;", 8, 1, 0);
        fault("crack 1;crack 2;crack 0;crack 0", 16, 3, 1);
        fault("crack 1;ice 1 60;rust", 8, 2, 3);
        fault("crack 300;ice 300 92 50;crack 1", 24, 5, 0);
        fault("crack 0;crack 1;", 0, 3, 1);
    }

    private static String many(String text, int times) {
        StringBuilder all = new StringBuilder();
        for (int i = 0; i < times; i++) {
            all.append(text);
        }
        return all.toString();
    }

    private static void theLastCharacterOfAFullText() {
        C.sentence(22, "There is a text of at most 100 characters");
        String all = many("crack 1;", 9) + many("crack 10;", 3);
        CoreMelter x = typed(all + "x");
        C.due("a full text", x.count(23), 100);
        C.fault("its last character", x, 99, 1, 0);
        C.changesNothing("lay()", () -> typed(all + "x"), CoreMelter::lay, -2);
        x = typed(many("crack 1;", 8) + many("crack 10;", 4));
        C.due("a full text", x.count(23), 100);
        C.fault("that ends with the last segment", x, -4, -4, -4);
        C.due("lay()", x.lay(), 12);
        C.segment("the last one", x, 11, 1, 10, 0, 0, 38, 0);
        x = typed(many("crack 1;", 7) + many("crack 10;", 5) + ";");
        C.due("the last ; is cut off", x.count(23), 100);
        C.fault("the last segment has no end", x, 92, 5, 0);
        C.fault("a number is cut off", typed(many("crack 1;", 10) + many("crack 10;", 1) + "ice 1 60 051;"), 89, 5, 0);
    }

    private static CoreMelter onACore(int segments, String text) {
        CoreMelter x = States.cracks(segments);
        Checks.type(x, text);
        return x;
    }

    private static void segmentsOfTheCoreAreCounted() {
        C.sentence(22, "4 if it is a segment too many (those of the core are counted, too)");
        C.fault("19 and 1", onACore(19, "crack 1;"), -4, -4, -4);
        C.fault("20 and 1", onACore(20, "crack 1;"), 0, 4, 0);
        C.fault("18 and 3", onACore(18, "crack 1;ice 1 60 0;dust 1 60 1;"), 19, 4, 0);
        C.fault("17 and 3", onACore(17, "crack 1;ice 1 60 0;dust 1 60 1;"), -4, -4, -4);
        C.fault("8 and 12", onACore(8, many("crack 1;", 12)), -4, -4, -4);
        C.fault("9 and 12", onACore(9, many("crack 1;", 12)), 88, 4, 0);
        C.fault("20 and none", onACore(20, ""), -4, -4, -4);
        CoreMelter x = onACore(19, "crack 1;");
        x.addSegment(1, 1, 0, 0);
        C.fault("the core has grown", x, 0, 4, 0);
        x.undo();
        C.fault("and is as it was", x, -4, -4, -4);
        C.changesNothing("lay() of one too many", () -> onACore(9, many("crack 1;", 12)), CoreMelter::lay, -2);
    }

    private static void eachIsFollowed() {
        C.sentence(22, "a sequence of segments, each followed by \";\"");
        fine("crack 1;crack 2;", 1, 1, 0, 0, 1, 2, 0, 0);
        fault("crack 1;crack 2", 8, 5, 0);
        fault("crack 1crack 2;", 0, 5, 0);
        fault("crack 1 crack 2;", 0, 5, 0);
        fault("crack 1;;crack 2;", 8, 1, 0);
        fault(";crack 1;", 0, 1, 0);
        fault("crack 1; ", 8, 1, 0);
    }

    private static void theEndOfASegment() {
        C.sentence(22, "5 if there is no \";\" behind it");
        fault("crack 1", 0, 5, 0);
        fault("crack 1:", 0, 5, 0);
        fault("crack 1<", 0, 5, 0);
        fault("crack 1 ;", 0, 5, 0);
        fault("crack 1crack 1;", 0, 5, 0);
        fault("crack 1;ice 1 60 0", 8, 5, 0);
        fine("crack 1;", 1, 1, 0, 0);
    }

    // ---- promise 22: the order of the reasons

    private static void order() {
        wordAheadOfTheRest();
        missingAheadOfRanges();
        rangesAheadOfTooMany();
        tooManyAheadOfTheEnd();
    }

    private static void wordAheadOfTheRest() {
        C.sentence(22, "the first one of these that applies to the segment as a whole");
        fault("icy", 0, 1, 0);
        fault("icy 0 0 99;", 0, 1, 0);
        C.fault("1 rather than 2, 4 and 5", onACore(20, "rust"), 0, 1, 0);
        C.fault("1 rather than 4", onACore(20, "rust 1 60 1;"), 0, 1, 0);
    }

    private static void missingAheadOfRanges() {
        C.sentence(22, "the first one of these that applies to the segment as a whole");
        fault("ice 0", 0, 2, 2);
        fault("ice 999 999;", 0, 2, 3);
        fault("dust 0 0 ", 0, 2, 3);
        C.fault("2 rather than 3, 4 and 5", onACore(20, "ice 0 0"), 0, 2, 3);
        C.fault("2 rather than 4", onACore(20, "ice 1 60;"), 0, 2, 3);
    }

    private static void rangesAheadOfTooMany() {
        C.sentence(22, "the first one of these that applies to the segment as a whole");
        fault("crack 0", 0, 3, 1);
        fault("ice 1 60 51", 0, 3, 3);
        C.fault("3 rather than 4", onACore(20, "crack 301;"), 0, 3, 1);
        C.fault("3 rather than 4 and 5", onACore(20, "dust 1 60 101"), 0, 3, 3);
    }

    private static void tooManyAheadOfTheEnd() {
        C.sentence(22, "the first one of these that applies to the segment as a whole");
        C.fault("4 rather than 5", onACore(20, "crack 1"), 0, 4, 0);
        C.fault("5 alone", onACore(19, "crack 1"), 0, 5, 0);
        C.fault("5 of an earlier one", onACore(19, "crack 1crack 1;"), 0, 5, 0);
        C.fault("4 of a later one", onACore(19, "crack 1;crack 1"), 8, 4, 0);
    }

    // ---- promise 23

    private static void lay() {
        layOfNothing();
        layOnTop();
        layToTheTwentieth();
        layWithAFault();
        layLeavesTheText();
        layIsOneChange();
    }

    private static void layOfNothing() {
        C.sentence(23, "Returns how many there are in the text");
        CoreMelter x = new CoreMelter();
        C.due("an empty text", x.lay(), 0);
        C.counts("no core", x, 8, 0, 0);
        C.due("it returns no error, and is a change", x.count(22), 1);
        C.due("one", typed("crack 1;").lay(), 1);
        C.due("twelve", typed(many("crack 1;", 12)).lay(), 12);
        C.due("an empty text on a full core", States.cracks(20).lay(), 0);
    }

    private static void layOnTop() {
        C.sentence(23, "Puts the segments of the text on top of the core, in their order; the text stays.");
        CoreMelter x = new CoreMelter();
        x.addSegment(0, 2, 60, 0);
        x.run(1);
        Checks.type(x, "dust 3 70 9;crack 4;ice 5 80 7;");
        C.due("lay()", x.lay(), 3);
        C.segment("below", x, 0, 0, 2, 60, 0, 0, 2);
        C.segment("the first", x, 1, 2, 3, 70, 9, 2, 0);
        C.segment("the second", x, 2, 1, 4, 0, 0, 5, 0);
        C.segment("the third", x, 3, 0, 5, 80, 7, 9, 0);
        C.counts("the front stays", x, 8, 4, 14, 2);
    }

    private static void layToTheTwentieth() {
        C.sentence(23, "A core is a sequence of at most 20 segments");
        CoreMelter x = onACore(17, "crack 1;crack 1;crack 1;");
        C.due("up to 20", x.lay(), 3);
        C.counts("a full core", x, 8, 20, 20);
        C.due("no more", x.lay(), -2);
        C.counts("a full core", x, 8, 20, 20);
        C.changesNothing("21", () -> onACore(18, "crack 1;crack 1;crack 1;"), CoreMelter::lay, -2);
    }

    private static void layWithAFault() {
        C.sentence(23, "NOT_POSSIBLE if it has a fault");
        C.changesNothing("busy", States::busy, CoreMelter::lay, -2);
        C.changesNothing("full", States::full, CoreMelter::lay, -2);
        C.changesNothing("in the last segment", () -> typed("crack 1;ice 1 60 0;crack 0;"), CoreMelter::lay, -2);
        C.changesNothing("no end", () -> typed("crack 1;ice 1 60 0"), CoreMelter::lay, -2);
        CoreMelter x = typed("crack 1;ice 1 60 0");
        C.due("a fault", x.lay(), -2);
        x.type(';');
        C.due("without it", x.lay(), 2);
    }

    private static void layLeavesTheText() {
        C.sentence(23, "in their order; the text stays");
        CoreMelter x = typed("crack 1;ice 1 60 0;");
        for (int i = 1; i <= 10; i++) {
            C.due("lay() number " + i, x.lay(), 2);
            C.due("length", x.count(23), 19);
            C.due("segments", x.count(8), 2 * i);
        }
        C.fault("the core is full", x, 0, 4, 0);
        C.due("the eleventh", x.lay(), -2);
    }

    private static void layIsOneChange() {
        C.sentence(23, "The changes are the calls of addSegment, lay, set, clean, run and renew that return no error.");
        CoreMelter x = typed(many("crack 1;", 12));
        x.lay();
        C.due("one state", x.count(22), 1);
        C.due("undo()", x.undo(), 0);
        C.counts("all twelve are gone", x, 8, 0, 0);
        C.due("the text is not", x.count(23), 96);
        C.due("lay()", x.lay(), 12);
    }
}
