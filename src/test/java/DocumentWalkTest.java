/**
 * The document once more, from its first line: ordinary answers for each sentence that no boundary test quotes, in the
 * document's order, and what README.md says of its examples.
 */
public final class DocumentWalkTest {
    private static final Checks C = new Checks("DocumentWalkTest");
    private static final int INVALID = -1;
    private static final int IMPOSSIBLE = -2;
    private static final int LIMIT = -3;
    private static final int NOT_THERE = -4;

    public static void main(String[] args) {
        C.document(args);
        whatItIs();
        terms();
        constants();
        core();
        plate();
        depthsAndVials();
        whatWouldBe();
        texts();
        readme();
        C.close();
    }

    /** A core of two units with 80 water and 40 gas each below two with 90 water and 50 dirt each. */
    private static CoreMelter gassy() {
        CoreMelter x = new CoreMelter();
        x.addSegment(0, 2, 80, 50);
        x.addSegment(2, 2, 90, 50);
        Checks.settings(x, 80, 50, 2000, 100, 500, 40, 500, 0);
        return x;
    }

    // ---- what it is

    private static void whatItIs() {
        C.sentence(14, "the depth that is told never goes back and is found in two ways, reasons are told for what stops"
            + " melting, water is accounted for, and cores come from texts with reasons of faults.");
        CoreMelter x = new CoreMelter();
        Checks.type(x, "ice 2 60;");
        C.fault("without its bubbles", x, 0, 2, 3);
        x.clearText();
        Checks.type(x, "ice 2 60 0;");
        C.due("lay()", x.lay(), 1);
        C.due("run(1)", x.run(1), 2);
        C.due("again()", x.again(), 2);
        C.counts("melted in one tick", x, 18, 1, 0, 0);
        C.due("run(1)", x.run(1), 2);
        C.counts("at the top", x, 18, 2, 1, 1);
        C.accounts("all is collected", x, 120, 120, 0, 0, 0, 0, 0);
    }

    // ---- terms

    private static void terms() {
        depthsGoUp();
        againAndAgain();
        unitComesToTheStock();
        otherwiseEnough();
        bubblesOfALine();
        dirtOfALine();
    }

    private static void depthsGoUp() {
        C.sentence(3, "which stands on the plate. Depths are counted from the lower end up");
        CoreMelter x = new CoreMelter();
        x.addSegment(0, 20, 80, 0);
        x.addSegment(1, 5, 0, 0);
        x.addSegment(2, 7, 60, 1);
        C.due("the first one's lower end", x.segment(0, 4), 0);
        C.due("the second one's", x.segment(1, 4), 20);
        C.due("the third one's", x.segment(2, 4), 25);
        C.due("two units melt", x.run(1), 2);
        C.due("of the lowest one", x.segment(0, 5), 2);
        C.due("of the next one", x.segment(1, 5), 0);
    }

    private static void againAndAgain() {
        C.sentence(10, "Then, again and again");
        CoreMelter x = new CoreMelter();
        x.addSegment(0, 10, 60, 0);
        C.due("three units at 30", x.run(1), 3);
        C.counts("10 of 100 are left", x, 10, 3, 10);
        C.due("three units more", x.run(1), 6);
        C.counts("20 of 110 are left", x, 10, 6, 20);
        C.due("four units more", x.run(1), 10);
        C.counts("at the top", x, 10, 10, 0);
    }

    private static void unitComesToTheStock() {
        C.sentence(10, "and the water, gas and dirt of this unit come to the stock");
        CoreMelter x = new CoreMelter();
        x.addSegment(0, 1, 80, 10);
        x.addSegment(2, 9, 90, 50);
        Checks.settings(x, 85, 50, 2000, 1);
        C.due("four lines draw 1 each", x.run(1), 0);
        C.counts("a unit of ice and one of dust", x, 10, 2, 0, 166, 8, 50);
        C.accounts("a unit of ice and one of dust", x, 170, 4, 0, 8, 0, 50, 0);
    }

    private static void otherwiseEnough() {
        C.sentence(10, "otherwise it is enough");
        CoreMelter x = new CoreMelter();
        x.addSegment(0, 1, 90, 0);
        x.addSegment(0, 1, 60, 0);
        x.set(0, 40);
        C.due("40 would do for the second unit alone", x.run(1), 0);
        C.counts("nothing has melted", x, 10, 0, 40, 0);
        C.counts("nothing has stopped it", x, 18, 1, 0, 0);
        C.due("45 for the first, 30 for the second", x.run(1), 2);
        C.counts("35 were enough", x, 10, 2, 0);
    }

    private static void bubblesOfALine() {
        C.sentence(10, "If 100 * (gas drawn) / (water drawn) is greater than the bubble limit");
        for (int limit : new int[] {49, 50}) {
            CoreMelter x = new CoreMelter();
            x.addSegment(0, 9, 80, 50);
            Checks.settings(x, 40, 50, 2000, 80, 500, limit);
            x.run(1);
            int wasted = limit == 49 ? 80 : 0;
            C.line("50 of 100 with limit " + limit, x, 0, 0, 0, wasted / 80, 80, wasted);
            C.accounts("50 of 100 with limit " + limit, x, 80, 80 - wasted, wasted, 40, 40, 0, 0);
        }
    }

    private static void dirtOfALine() {
        C.sentence(10, "The dirt drawn comes to its dirt");
        CoreMelter x = States.dusty(500);
        C.line("first tick", x, 0, 0, 100, 0, 60, 0);
        C.line("first tick", x, 3, 0, 0, 0, 0, 0);
        x.run(1);
        C.line("second tick", x, 0, 0, 200, 0, 120, 0);
        C.line("second tick", x, 3, 0, 0, 0, 0, 0);
        x.run(1);
        C.line("third tick, of four units", x, 0, 0, 300, 0, 180, 0);
        C.line("third tick, of four units", x, 3, 0, 100, 0, 60, 0);
    }

    // ---- changes and errors: the constants

    private static void constants() {
        invalidArgument();
        notPossible();
        limitReached();
        notFound();
    }

    private static void invalidArgument() {
        C.sentence(2, "`INVALID_ARGUMENT = -1`: An argument is out of its range, or there is no such segment, line or"
            + " vial.");
        CoreMelter x = new CoreMelter();
        C.due("the constant", CoreMelter.INVALID_ARGUMENT, INVALID);
        C.due("addSegment(3, 1, 60, 0)", x.addSegment(3, 1, 60, 0), INVALID);
        C.due("segment(0, 0)", x.segment(0, 0), INVALID);
        C.due("line(4, 0)", x.line(4, 0), INVALID);
        C.due("vial(0, 0)", x.vial(0, 0), INVALID);
    }

    private static void notPossible() {
        C.sentence(7, "`NOT_POSSIBLE = -2`: The call is not possible in the present state.");
        CoreMelter x = new CoreMelter();
        C.due("the constant", CoreMelter.NOT_POSSIBLE, IMPOSSIBLE);
        C.due("undo()", x.undo(), IMPOSSIBLE);
        C.due("clean(0)", x.clean(0), IMPOSSIBLE);
        x.type('i');
        C.due("lay()", x.lay(), IMPOSSIBLE);
    }

    private static void limitReached() {
        C.sentence(2, "`LIMIT_REACHED = -3`: A fixed limit has been reached.");
        C.due("the constant", CoreMelter.LIMIT_REACHED, LIMIT);
        C.due("a 21st segment", States.full().addSegment(1, 1, 0, 0), LIMIT);
        C.due("a 101st character", States.full().type(' '), LIMIT);
        CoreMelter x = States.old(20, 0);
        C.due("a 20001st tick", x.run(1), LIMIT);
        C.due("a 20001st tick", x.ifRun(1, 0), LIMIT);
        C.due("a 20001st tick", x.flowFor(1), LIMIT);
    }

    private static void notFound() {
        C.sentence(4, "`NOT_FOUND = -4`: There is no such value.");
        CoreMelter x = new CoreMelter();
        C.due("the constant", CoreMelter.NOT_FOUND, NOT_THERE);
        C.due("segmentAt(0)", x.segmentAt(0), NOT_THERE);
        C.due("vialAt(0)", x.vialAt(0), NOT_THERE);
        C.due("ticksTo(1)", x.ticksTo(1), NOT_THERE);
        C.due("fault(0)", x.fault(0), NOT_THERE);
    }

    // ---- promises 2 to 8

    private static void core() {
        segmentOnTop();
        propertiesOfSegments();
        segmentsOfUnits();
        settingsAreSet();
    }

    private static void segmentOnTop() {
        C.sentence(2, "Puts a segment on top of the core.");
        CoreMelter x = new CoreMelter();
        C.due("the first", x.addSegment(2, 10, 92, 100), 0);
        C.due("the second", x.addSegment(0, 300, 60, 50), 1);
        C.segment("the first", x, 0, 2, 10, 92, 100, 0, 0);
        C.segment("the second", x, 1, 0, 300, 60, 50, 10, 0);
        C.counts("segments and length", x, 8, 2, 310);
    }

    private static void propertiesOfSegments() {
        C.sentence(3, "Returns a property of a segment.");
        C.sentence(3, "0: its kind; 1: its length; 2: its density (0 for a crack); 3: its bubbles or dirt (0 for a"
            + " crack); 4: the depth of its lower end; 5: how much of it has melted (of a crack: is below the front)");
        CoreMelter x = new CoreMelter();
        x.addSegment(0, 2, 60, 7);
        x.addSegment(1, 4, 0, 0);
        x.addSegment(2, 5, 60, 8);
        x.run(1);
        C.segment("the ice", x, 0, 0, 2, 60, 7, 0, 2);
        C.segment("the crack", x, 1, 1, 4, 0, 0, 2, 4);
        C.segment("the dust", x, 2, 2, 5, 60, 8, 6, 1);
        C.sentence(3, "`segment`: number of the segment");
        C.due("segment(-1, 0)", x.segment(-1, 0), INVALID);
        C.due("segment(3, 0)", x.segment(3, 0), INVALID);
    }

    private static void segmentsOfUnits() {
        C.sentence(4, "Returns the segment in which a unit of depth lies.");
        C.sentence(4, "Returns the number of the segment");
        CoreMelter x = new CoreMelter();
        x.addSegment(0, 1, 60, 0);
        x.addSegment(1, 2, 0, 0);
        x.addSegment(2, 1, 60, 1);
        int[] want = {0, 1, 1, 2, NOT_THERE};
        for (int depth = 0; depth < want.length; depth++) {
            C.due("segmentAt(" + depth + ")", x.segmentAt(depth), want[depth]);
        }
    }

    private static void settingsAreSet() {
        C.sentence(8, "Sets a setting.");
        CoreMelter x = new CoreMelter();
        int[] initial = {100, 50, 2000, 60, 500, 40, 500, 5};
        int[] other = {101, 51, 2001, 61, 501, 41, 501, 6};
        for (int what = 0; what < 8; what++) {
            C.due("set(" + what + ")", x.set(what, other[what]), initial[what]);
            C.due("count(" + what + ")", x.count(what), other[what]);
        }
    }

    // ---- promises 10 to 13

    private static void plate() {
        ticksGoBy();
        allCounts();
        allAccounts();
        propertiesOfLines();
    }

    private static void ticksGoBy() {
        C.sentence(10, "Lets ticks go by.");
        CoreMelter x = States.steady(120);
        CoreMelter y = States.steady(120);
        x.run(5);
        for (int tick = 1; tick <= 5; tick++) {
            C.due("tick " + tick, y.run(1), tick);
        }
        for (int what = 0; what <= 21; what++) {
            C.due("five ticks, or five times one: count(" + what + ")", x.count(what), y.count(what));
        }
        C.sentence(10, "INVALID_ARGUMENT if ticks is out of range");
        C.due("run(0)", x.run(0), INVALID);
        C.due("run(1001)", x.run(1001), INVALID);
        C.due("ticks", x.count(18), 5);
    }

    /** Tick 1: two units of ice, both lines waste 100 and 60. Tick 2: one of dust, line 0 wastes it for its gap. */
    private static void allCounts() {
        C.sentence(11, "Returns a number.");
        CoreMelter x = gassy();
        x.type('x');
        x.run(1);
        C.counts("first tick", x, 0, 80, 50, 2000, 100, 500, 40, 500, 0);
        C.counts("first tick", x, 8, 2, 4, 2, 0, 0, 0, 0, 2, 0, 0, 1, 0, 0, 0, 5, 1);
        x.run(1);
        C.counts("second tick", x, 8, 2, 4, 3, 35, 0, 0, 0, 3, 0, 0, 2, 0, 0, 0, 5, 1);
        x.run(1);
        C.counts("third tick", x, 8, 2, 4, 4, 0, 0, 0, 0, 4, 0, 90, 3, 0, 0, 0, 5, 1);
        x.run(1);
        C.counts("fourth tick", x, 8, 2, 4, 4, 0, 0, 0, 0, 4, 0, 90, 4, 1, 1, 0, 5, 1);
    }

    private static void allAccounts() {
        C.sentence(12, "0 the water that has melted, 1 collected, 2 wasted, 3 the gas that has melted, 4 the gas that was"
            + " drawn, 5 the dirt that has melted, 6 the dirt that was drawn.");
        CoreMelter x = gassy();
        C.accounts("before", x, 0, 0, 0, 0, 0, 0, 0);
        x.run(1);
        C.accounts("first tick", x, 160, 0, 160, 80, 80, 0, 0);
        x.run(1);
        C.accounts("second tick", x, 250, 0, 250, 80, 80, 50, 50);
        x.run(1);
        C.accounts("third tick", x, 340, 90, 250, 80, 80, 100, 100);
        C.sentence(12, "Returns an account.");
        C.sentence(12, "Returns the account");
        C.due("account(-1)", x.account(-1), INVALID);
        C.due("account(7)", x.account(7), INVALID);
        x = gassy();
        x.set(3, 10);
        x.run(1);
        C.accounts("40 drawn: of the gas 5 each", x, 160, 0, 40, 80, 20, 0, 0);
        C.counts("the rest of it", x, 12, 120, 60, 0);
    }

    private static void propertiesOfLines() {
        C.sentence(13, "Returns a property of a line.");
        CoreMelter x = gassy();
        x.set(4, 100);
        x.run(1);
        C.line("first tick", x, 0, 0, 0, 1, 100, 100);
        C.line("first tick", x, 1, 0, 0, 1, 60, 60);
        C.line("first tick", x, 2, 0, 0, 0, 0, 0);
        x.run(2);
        C.line("third tick", x, 0, 1, 100, 0, 280, 190);
        C.line("third tick", x, 1, 0, 0, 1, 60, 60);
    }

    // ---- promises 14 to 16

    private static void depthsAndVials() {
        foundFromTheSegments();
        propertiesOfVials();
        vialsOfDepths();
    }

    private static void foundFromTheSegments() {
        C.sentence(14, "Finds the depth that is told in a second way: from the segments alone, by the water that was"
            + " drawn in all, from the lower end up, at most the front.");
        CoreMelter x = gassy();
        x.addSegment(1, 6, 0, 0);
        int[] want = {2, 3, 10, 10};
        C.due("before", x.again(), 0);
        C.sentence(14, "Returns this depth.");
        for (int tick = 0; tick < want.length; tick++) {
            C.due("run(1)", x.run(1), want[tick]);
            C.due("again()", x.again(), want[tick]);
        }
        x = gassy();
        x.set(3, 10);
        x.run(1);
        C.due("40 of 80 are drawn", x.again(), 0);
        x.run(1);
        C.due("80 are drawn", x.again(), 1);
        C.due("the front", x.count(10), 3);
    }

    private static void propertiesOfVials() {
        C.sentence(15, "Returns a property of a sealed vial.");
        C.sentence(15, "0: its water; 1: its depth; 2: the depth of the vial before (0 for the first one); 3: the ticks"
            + " that had gone by");
        CoreMelter x = States.steady(120);
        x.run(5);
        C.vial("the first", x, 0, 120, 2, 0, 2);
        C.vial("the second", x, 1, 120, 4, 2, 4);
        C.due("the present one", x.vial(2, 0), INVALID);
        C.due("its water", x.count(17), 60);
    }

    private static void vialsOfDepths() {
        C.sentence(16, "Returns the vial that belongs to a depth");
        C.sentence(16, "Returns the vial");
        CoreMelter x = States.steady(120);
        x.run(5);
        int[] want = {0, 0, 1, 1, NOT_THERE, NOT_THERE};
        for (int depth = 0; depth < want.length; depth++) {
            C.due("vialAt(" + depth + ")", x.vialAt(depth), want[depth]);
        }
        C.due("vialAt(-1)", x.vialAt(-1), INVALID);
    }

    // ---- promises 17 to 19

    private static void whatWouldBe() {
        C.sentence(17, "---- what would be; nothing changes.");
        CoreMelter x = States.steady(120);
        C.due("ifRun(5, 0)", x.ifRun(5, 0), 5);
        C.due("ifRun(5, 4)", x.ifRun(5, 4), 2);
        C.counts("nothing has gone by", x, 18, 0, 0, 0, 0, 5);
        C.sentence(18, "Tells after how many ticks the depth that is told is at least a depth.");
        C.due("ticksTo(5)", x.ticksTo(5), 5);
        C.due("ticksTo(300)", x.ticksTo(300), 300);
        C.due("ticksTo(301)", x.ticksTo(301), NOT_THERE);
        C.counts("nothing has gone by", x, 18, 0, 0, 0, 0, 5);
        C.sentence(19, "Returns the flow");
        C.due("10 would leave 20 of 60; 20 leaves nothing", x.flowFor(3), 20);
        C.counts("nothing has gone by", x, 18, 0, 0, 0, 0, 5);
        C.due("the flow stays", x.count(3), 60);
        C.sentence(19, "INVALID_ARGUMENT if ticks is out of range");
        C.due("flowFor(0)", x.flowFor(0), INVALID);
        C.due("flowFor(301)", x.flowFor(301), INVALID);
    }

    // ---- promises 20 to 23

    private static void texts() {
        charactersAreAppended();
        numbersOfFaults();
    }

    private static void charactersAreAppended() {
        C.sentence(20, "Appends a character to the text.");
        CoreMelter x = new CoreMelter();
        String text = "crack 7;";
        for (int i = 0; i < text.length(); i++) {
            C.due("type " + text.charAt(i), x.type(text.charAt(i)), i + 1);
        }
        C.due("lay()", x.lay(), 1);
        C.segment("as it was typed", x, 0, 1, 7, 0, 0, 0, 0);
        C.sentence(20, "INVALID_ARGUMENT if character is out of range");
        C.due("type(31)", x.type(31), INVALID);
        C.due("type(127)", x.type(127), INVALID);
        C.due("the length", x.count(23), 8);
    }

    private static void numbersOfFaults() {
        C.sentence(22, "Tells about the fault of the text.");
        C.sentence(22, "The number of the fault is, for the reasons 2 and 3, which number is missing, or is the first one"
            + " out of its range, from 1 on; otherwise 0.");
        fault("ice 1 60 0;snow 1;", 11, 1, 0);
        fault("crack 1;dust", 8, 2, 1);
        fault("crack 1;dust 1 60;", 8, 2, 3);
        fault("ice 301 93 51;", 0, 3, 1);
        fault("crack 1;ice 1 93 51;", 8, 3, 2);
        fault("crack 1;dust 1 92 0;", 8, 3, 3);
        fault("crack 1;crack 1", 8, 5, 0);
        CoreMelter x = States.cracks(19);
        Checks.type(x, "crack 1;crack 1;");
        C.fault("a 21st segment", x, 8, 4, 0);
        C.sentence(22, "Returns that");
        C.due("fault(-1)", x.fault(-1), INVALID);
        C.due("fault(3)", x.fault(3), INVALID);
    }

    private static void fault(String text, int index, int reason, int number) {
        CoreMelter x = new CoreMelter();
        Checks.type(x, text);
        C.fault(text, x, index, reason, number);
    }

    // ---- README.md

    private static void readme() {
        C.promise(1);
        CoreMelter melter = new CoreMelter();
        C.due("the ice", melter.addSegment(0, 20, 80, 10), 0);
        C.due("the dust", melter.addSegment(2, 10, 90, 50), 1);
        C.due("set(3, 45)", melter.set(3, 45), 60);
        C.due("run(10)", melter.run(10), 22);
        C.due("count(10)", melter.count(10), 24);
        C.due("account(1)", melter.account(1), 1780);
        C.due("vialAt(3)", melter.vialAt(3), 0);
        C.due("vial(0, 0)", melter.vial(0, 0), 520);
        C.due("undo()", melter.undo(), 3);
        C.promise(23);
        String text = "crack 5;dust 10 90 50";
        Checks.type(melter, text);
        C.due("fault(1)", melter.fault(1), 5);
        C.due("fault(0)", melter.fault(0), 8);
        C.due("lay()", melter.lay(), IMPOSSIBLE);
        melter.type(';');
        C.due("fault(1)", melter.fault(1), NOT_THERE);
        C.due("lay()", melter.lay(), 2);
        C.due("count(8)", melter.count(8), 4);
    }
}
