/** Promises 1 to 8: one test for each sentence of the document that names an edge. */
public final class CoreBoundaryTest {
    private static final Checks C = new Checks("CoreBoundaryTest");
    private static final int INVALID = -1;
    private static final int MIN = Integer.MIN_VALUE;
    private static final int MAX = Integer.MAX_VALUE;

    public static void main(String[] args) {
        C.document(args);
        newObject();
        addSegment();
        segment();
        segmentAt();
        waterBelow();
        renew();
        undo();
        set();
        C.close();
    }

    // ---- promise 1

    private static void newObject() {
        constants();
        newHasNoCore();
        newHasInitialSettings();
        newFrontIsZero();
        newStoreAndStockAreEmpty();
        newLinesAreOpen();
        newTextIsEmpty();
        newVialIsEmpty();
        theLastOf512Calls();
    }

    private static void constants() {
        C.sentence(1, "`INVALID_ARGUMENT = -1`");
        C.due("INVALID_ARGUMENT", CoreMelter.INVALID_ARGUMENT, -1);
        C.sentence(1, "`NOT_POSSIBLE = -2`");
        C.due("NOT_POSSIBLE", CoreMelter.NOT_POSSIBLE, -2);
        C.sentence(1, "`LIMIT_REACHED = -3`");
        C.due("LIMIT_REACHED", CoreMelter.LIMIT_REACHED, -3);
        C.sentence(1, "`NOT_FOUND = -4`");
        C.due("NOT_FOUND", CoreMelter.NOT_FOUND, -4);
    }

    private static void newHasNoCore() {
        C.sentence(1, "Creates a melter without a core.");
        CoreMelter x = new CoreMelter();
        C.counts("new", x, 8, 0, 0);
        C.segment("new", x, 0, INVALID, INVALID, INVALID, INVALID, INVALID, INVALID);
        C.due("segmentAt(0)", x.segmentAt(0), -4);
        C.due("waterBelow(0)", x.waterBelow(0), 0);
        C.due("waterBelow(1)", x.waterBelow(1), INVALID);
        C.accounts("new", x, 0, 0, 0, 0, 0, 0, 0);
        C.counts("no vial, tick or state", x, 15, 0, 0, 0, 0, 0, 0, 0, 0);
    }

    private static void newHasInitialSettings() {
        C.sentence(1, "(in each case the range and the initial value)");
        C.counts("new", new CoreMelter(), 0, 100, 50, 2000, 60, 500, 40, 500, 5);
    }

    private static void newFrontIsZero() {
        C.sentence(1, "The front is the depth up to which the core has melted, initially 0.");
        CoreMelter x = new CoreMelter();
        C.due("front without a core", x.count(10), 0);
        x.addSegment(1, 9, 0, 0);
        C.due("front below a crack", x.count(10), 0);
        C.due("no part of it", x.segment(0, 5), 0);
    }

    private static void newStoreAndStockAreEmpty() {
        C.sentence(1, "There are a store of heat, a stock of water, and the gas and the dirt in the stock, all initially 0.");
        C.counts("new", new CoreMelter(), 11, 0, 0, 0, 0);
    }

    private static void newLinesAreOpen() {
        C.sentence(1, "each open (initially) or stuck, with a dirt and a gap, initially 0 both");
        CoreMelter x = new CoreMelter();
        for (int line = 0; line <= 3; line++) {
            C.line("new", x, line, 0, 0, 0, 0, 0);
        }
        C.due("stuck lines", x.count(21), 0);
    }

    private static void newTextIsEmpty() {
        C.sentence(1, "There is a text of at most 100 characters, initially empty");
        CoreMelter x = new CoreMelter();
        C.due("length", x.count(23), 0);
        C.fault("new", x, -4, -4, -4);
        C.due("clearText()", x.clearText(), 0);
        C.due("lay()", x.lay(), 0);
    }

    private static void newVialIsEmpty() {
        C.sentence(1, "What is collected comes to the present vial, which is empty at first.");
        CoreMelter x = new CoreMelter();
        C.counts("new", x, 16, 0, 0);
        C.due("vialAt(0)", x.vialAt(0), -4);
        x.addSegment(0, 1, 60, 0);
        x.run(1);
        C.counts("what one unit gave", x, 16, 0, 60);
    }

    private static void theLastOf512Calls() {
        C.sentence(1, "An object is used for at most 512 calls after it has been made");
        CoreMelter x = new CoreMelter();
        for (int i = 0; i < 509; i++) {
            x.run(1);
        }
        C.due("call 510", x.count(18), 509);
        C.due("call 511", x.flowFor(300), 10);
        C.due("call 512", x.undo(), 4);
        CoreMelter y = States.steady(500);
        for (int i = 7; i < 507; i++) {
            y.flowFor(300);
        }
        C.due("behind 500 dear calls", y.ticksTo(300), 300);
    }

    // ---- promise 2

    private static void addSegment() {
        kindsOfSegments();
        lengthsOfSegments();
        densitiesOfIceAndDust();
        densityOfACrack();
        bubblesOfIce();
        dirtOfDust();
        moreOfACrack();
        numbersOfSegments();
        theTwentiethSegment();
        segmentsComeOnTop();
        wrongSegmentOnAFullCore();
        refusedSegments();
    }

    private static void refusedSegment(int kind, int length, int density, int more) {
        C.changesNothing("addSegment(" + kind + ", " + length + ", " + density + ", " + more + ")", States::busy,
            x -> x.addSegment(kind, length, density, more), INVALID);
    }

    private static void takenSegment(int kind, int length, int density, int more) {
        String call = "addSegment(" + kind + ", " + length + ", " + density + ", " + more + ")";
        CoreMelter x = new CoreMelter();
        C.due(call, x.addSegment(kind, length, density, more), 0);
        C.segment(call, x, 0, kind, length, density, more, 0, 0);
        C.counts(call, x, 8, 1, length);
        C.due(call + ", states", x.count(22), 1);
    }

    private static void kindsOfSegments() {
        C.sentence(2, "`kind`: 0 for ice, 1 for a crack, 2 for dust");
        takenSegment(0, 1, 60, 1);
        takenSegment(1, 1, 0, 0);
        takenSegment(2, 1, 60, 1);
        for (int kind : new int[] {-1, 3, 4, MIN, MAX}) {
            refusedSegment(kind, 1, 60, 1);
            refusedSegment(kind, 1, 60, 0);
            refusedSegment(kind, 1, 0, 0);
        }
    }

    private static void lengthsOfSegments() {
        C.sentence(2, "`length`: 1 to 300");
        for (int kind = 0; kind <= 2; kind++) {
            int density = kind == 1 ? 0 : 60;
            int more = kind == 2 ? 1 : 0;
            takenSegment(kind, 1, density, more);
            takenSegment(kind, 300, density, more);
            for (int length : new int[] {0, -1, 301, MIN, MAX}) {
                refusedSegment(kind, length, density, more);
            }
        }
    }

    private static void densitiesOfIceAndDust() {
        C.sentence(2, "`density`: 60 to 92; for a crack 0");
        for (int kind = 0; kind <= 2; kind += 2) {
            takenSegment(kind, 1, 60, 1);
            takenSegment(kind, 1, 92, 1);
            for (int density : new int[] {59, 93, 0, -60, MIN, MAX}) {
                refusedSegment(kind, 1, density, 1);
            }
        }
    }

    private static void densityOfACrack() {
        C.sentence(2, "`density`: 60 to 92; for a crack 0");
        takenSegment(1, 1, 0, 0);
        for (int density : new int[] {-1, 1, 60, 92, MIN, MAX}) {
            refusedSegment(1, 1, density, 0);
        }
    }

    private static void bubblesOfIce() {
        C.sentence(2, "`more`: for ice its bubbles, 0 to 50; for dust its dirt, 1 to 100; for a crack 0");
        takenSegment(0, 1, 60, 0);
        takenSegment(0, 1, 60, 50);
        for (int bubbles : new int[] {-1, 51, 100, MIN, MAX}) {
            refusedSegment(0, 1, 60, bubbles);
        }
    }

    private static void dirtOfDust() {
        C.sentence(2, "`more`: for ice its bubbles, 0 to 50; for dust its dirt, 1 to 100; for a crack 0");
        takenSegment(2, 1, 60, 1);
        takenSegment(2, 1, 60, 100);
        for (int dirt : new int[] {0, 101, -1, MIN, MAX}) {
            refusedSegment(2, 1, 60, dirt);
        }
    }

    private static void moreOfACrack() {
        C.sentence(2, "`more`: for ice its bubbles, 0 to 50; for dust its dirt, 1 to 100; for a crack 0");
        takenSegment(1, 1, 0, 0);
        for (int more : new int[] {-1, 1, 50, 100, MIN, MAX}) {
            refusedSegment(1, 1, 0, more);
        }
    }

    private static void numbersOfSegments() {
        C.sentence(2, "Returns the number of the segment; INVALID_ARGUMENT if an argument is out of range");
        CoreMelter x = new CoreMelter();
        C.due("the first", x.addSegment(0, 1, 60, 0), 0);
        C.due("the second", x.addSegment(1, 1, 0, 0), 1);
        C.due("a wrong one", x.addSegment(2, 1, 60, 0), INVALID);
        C.due("the third", x.addSegment(2, 1, 60, 1), 2);
    }

    private static void theTwentiethSegment() {
        C.sentence(2, "LIMIT_REACHED if there are 20");
        for (int kind = 0; kind <= 2; kind++) {
            int k = kind;
            int density = kind == 1 ? 0 : 60;
            int more = kind == 2 ? 1 : 0;
            CoreMelter x = States.cracks(19);
            C.due("the 20th", x.addSegment(k, 3, density, more), 19);
            C.segment("the 20th", x, 19, k, 3, density, more, 19, 0);
            C.counts("20 segments", x, 8, 20, 22);
            C.changesNothing("a 21st", () -> States.cracks(20), y -> y.addSegment(k, 3, density, more), -3);
        }
        C.changesNothing("a 21st on a busy core", States::full, y -> y.addSegment(0, 1, 60, 0), -3);
    }

    private static void segmentsComeOnTop() {
        C.sentence(2, "New segments come on top.");
        CoreMelter x = new CoreMelter();
        x.addSegment(0, 2, 60, 0);
        x.run(1);
        C.counts("at the top", x, 9, 2, 2);
        x.addSegment(2, 3, 70, 9);
        C.segment("below", x, 0, 0, 2, 60, 0, 0, 2);
        C.segment("on top", x, 1, 2, 3, 70, 9, 2, 0);
        C.counts("the front stays", x, 9, 5, 2);
    }

    private static void wrongSegmentOnAFullCore() {
        C.sentence(2, "INVALID_ARGUMENT is returned rather than NOT_POSSIBLE, NOT_POSSIBLE rather than LIMIT_REACHED");
        int[][] wrong = {{-1, 1, 60, 1}, {3, 1, 60, 1}, {0, 0, 60, 0}, {0, 301, 60, 0}, {0, 1, 59, 0}, {1, 1, 1, 0},
            {0, 1, 60, 51}, {1, 1, 0, 1}, {2, 1, 60, 0}};
        for (int[] w : wrong) {
            C.changesNothing("a wrong 21st", States::full, x -> x.addSegment(w[0], w[1], w[2], w[3]), INVALID);
        }
    }

    private static void refusedSegments() {
        C.sentence(2, "A call that returns an error changes nothing.");
        refusedSegment(3, 0, 93, 101);
        C.changesNothing("a wrong first one", CoreMelter::new, x -> x.addSegment(0, 1, 60, 51), INVALID);
        C.changesNothing("a 21st", States::full, x -> x.addSegment(2, 1, 60, 1), -3);
    }

    // ---- promise 3

    private static CoreMelter three() {
        CoreMelter x = new CoreMelter();
        x.addSegment(0, 3, 60, 10);
        x.addSegment(1, 7, 0, 0);
        x.addSegment(2, 5, 90, 100);
        return x;
    }

    private static void segment() {
        segmentNumbers();
        segmentProperties();
        segmentOfACrack();
        numberedFromTheLowerEnd();
        lowerEnds();
        meltedParts();
        meltedPartOfACrack();
    }

    private static void segmentNumbers() {
        C.sentence(3, "If there is no segment, line or vial with a certain number, this is INVALID_ARGUMENT.");
        CoreMelter x = three();
        C.due("segment(0, 1)", x.segment(0, 1), 3);
        C.due("segment(2, 1)", x.segment(2, 1), 5);
        for (int segment : new int[] {-1, 3, 19, 20, MIN, MAX}) {
            for (int what = 0; what <= 5; what++) {
                C.due("segment(" + segment + ", " + what + ")", x.segment(segment, what), INVALID);
            }
        }
        C.due("without a core", new CoreMelter().segment(0, 0), INVALID);
        CoreMelter full = States.cracks(20);
        C.due("the last of 20", full.segment(19, 4), 19);
        C.due("there is no 21st", full.segment(20, 4), INVALID);
        full.undo();
        C.due("one is undone", full.segment(19, 4), INVALID);
        C.changesNothing("segment(4, 0)", States::busy, y -> y.segment(4, 0), INVALID);
    }

    private static void segmentProperties() {
        C.sentence(3, "Returns the property; INVALID_ARGUMENT if an argument is out of range.");
        CoreMelter x = three();
        C.due("the first property", x.segment(2, 0), 2);
        C.due("the last property", x.segment(2, 5), 0);
        for (int what : new int[] {-1, 6, MIN, MAX}) {
            C.due("segment(2, " + what + ")", x.segment(2, what), INVALID);
            C.changesNothing("segment(0, " + what + ")", States::busy, y -> y.segment(0, what), INVALID);
        }
    }

    private static void segmentOfACrack() {
        C.sentence(3, "2: its density (0 for a crack); 3: its bubbles or dirt (0 for a crack)");
        CoreMelter x = three();
        C.segment("ice", x, 0, 0, 3, 60, 10);
        C.segment("a crack", x, 1, 1, 7, 0, 0);
        C.segment("dust", x, 2, 2, 5, 90, 100);
    }

    private static void numberedFromTheLowerEnd() {
        C.sentence(3, "A core is a sequence of at most 20 segments, numbered from 0 at its lower end");
        CoreMelter x = new CoreMelter();
        for (int i = 0; i < 20; i++) {
            x.addSegment(0, 100 + i, 60, 0);
        }
        for (int i = 0; i < 20; i++) {
            C.due("length of segment " + i, x.segment(i, 1), 100 + i);
        }
        C.due("number 20", x.segment(20, 1), INVALID);
        C.due("number -1", x.segment(-1, 1), INVALID);
        C.sentence(3, "the depth of a place is the length of all that is below it");
        int below = 0;
        for (int i = 0; i < 20; i++) {
            C.due("lower end of segment " + i, x.segment(i, 4), below);
            C.due("its first unit", x.segmentAt(below), i);
            below += 100 + i;
        }
        C.due("the length of all", x.count(9), below);
    }

    private static void lowerEnds() {
        C.sentence(3, "4: the depth of its lower end");
        CoreMelter x = three();
        C.due("of the first", x.segment(0, 4), 0);
        C.due("of the second", x.segment(1, 4), 3);
        C.due("of the third", x.segment(2, 4), 10);
        C.due("of the last one of a great core", States.full().segment(19, 4), 5700);
    }

    private static void meltedParts() {
        C.sentence(3, "5: how much of it has melted (of a crack: is below the front)");
        CoreMelter x = three();
        x.set(0, 30);
        C.due("nothing at first", x.segment(0, 5), 0);
        x.run(1);
        C.due("one unit", x.segment(0, 5), 1);
        x.run(1);
        C.due("all but one unit", x.segment(0, 5), 2);
        x.run(1);
        C.due("all", x.segment(0, 5), 3);
        C.due("nothing of the last", x.segment(2, 5), 0);
        x.set(0, 200);
        x.run(9);
        C.due("not more than all", x.segment(0, 5), 3);
        C.due("all of the last", x.segment(2, 5), 5);
    }

    private static void meltedPartOfACrack() {
        C.sentence(3, "5: how much of it has melted (of a crack: is below the front)");
        CoreMelter x = three();
        Checks.settings(x, 30, 50, 120, 1);
        x.run(2);
        C.counts("one unit below it", x, 10, 2);
        C.due("nothing of it", x.segment(1, 5), 0);
        x.set(2, 172);
        x.run(1);
        C.counts("at its lower end, as the stock came to its limit", x, 10, 3, 0, 168);
        C.due("nothing of it", x.segment(1, 5), 0);
        x.set(2, 169);
        x.run(1);
        C.counts("at its upper end", x, 10, 10);
        C.due("all of it", x.segment(1, 5), 7);
    }

    // ---- promise 4

    private static void segmentAt() {
        unitsOfDepth();
        depthAboveTheCore();
        negativeDepth();
    }

    private static void unitsOfDepth() {
        C.sentence(4, "0 or more: the unit from this depth to the next one");
        CoreMelter x = three();
        int[] depths = {0, 2, 3, 9, 10, 14};
        int[] want = {0, 0, 1, 1, 2, 2};
        for (int i = 0; i < depths.length; i++) {
            C.due("segmentAt(" + depths[i] + ")", x.segmentAt(depths[i]), want[i]);
        }
        CoreMelter full = States.full();
        C.due("the last unit of the longest core", full.segmentAt(5999), 19);
        C.due("the first unit of its last segment", full.segmentAt(5700), 19);
        C.due("the one below", full.segmentAt(5699), 18);
    }

    private static void depthAboveTheCore() {
        C.sentence(4, "NOT_FOUND if the core is not so long");
        CoreMelter x = three();
        C.due("the last unit", x.segmentAt(14), 2);
        C.due("one above", x.segmentAt(15), -4);
        C.due("far above", x.segmentAt(MAX), -4);
        C.due("without a core", new CoreMelter().segmentAt(0), -4);
        C.due("above the longest core", States.full().segmentAt(6000), -4);
        x.addSegment(0, 1, 60, 0);
        C.due("the core has grown", x.segmentAt(15), 3);
        x.undo();
        C.due("and is as it was", x.segmentAt(15), -4);
        C.changesNothing("above the core", States::busy, y -> y.segmentAt(115), -4);
    }

    private static void negativeDepth() {
        C.sentence(4, "INVALID_ARGUMENT if depth is negative");
        C.due("segmentAt(0)", three().segmentAt(0), 0);
        for (int depth : new int[] {-1, MIN}) {
            C.due("without a core", new CoreMelter().segmentAt(depth), INVALID);
            C.changesNothing("segmentAt(" + depth + ")", States::busy, x -> x.segmentAt(depth), INVALID);
        }
    }

    // ---- promise 5

    private static void waterBelow() {
        depthsOfWater();
        waterOutOfRange();
        waterOfACrack();
    }

    private static void depthsOfWater() {
        C.sentence(5, "`depth`: 0 to the length of the core");
        CoreMelter x = three();
        int[] depths = {0, 1, 2, 3, 10, 11, 14, 15};
        int[] want = {0, 60, 120, 180, 180, 270, 540, 630};
        for (int i = 0; i < depths.length; i++) {
            C.due("waterBelow(" + depths[i] + ")", x.waterBelow(depths[i]), want[i]);
        }
        C.due("the whole of the longest core", States.full().waterBelow(6000), 480000);
        C.due("all but its last unit", States.full().waterBelow(5999), 479920);
        C.due("without a core", new CoreMelter().waterBelow(0), 0);
    }

    private static void waterOutOfRange() {
        C.sentence(5, "Returns the water; INVALID_ARGUMENT if depth is out of range.");
        CoreMelter x = three();
        C.due("the length", x.waterBelow(15), 630);
        for (int depth : new int[] {-1, 16, MIN, MAX}) {
            C.due("waterBelow(" + depth + ")", x.waterBelow(depth), INVALID);
            C.due("without a core", new CoreMelter().waterBelow(depth), INVALID);
        }
        C.due("one above no core", new CoreMelter().waterBelow(1), INVALID);
        C.due("above the longest core", States.full().waterBelow(6001), INVALID);
        C.changesNothing("above the core", States::busy, y -> y.waterBelow(116), INVALID);
        C.changesNothing("below 0", States::busy, y -> y.waterBelow(-1), INVALID);
    }

    private static void waterOfACrack() {
        C.sentence(5, "Returns the water of all ice and dust below a depth.");
        CoreMelter x = three();
        for (int depth = 3; depth <= 10; depth++) {
            C.due("in the crack: waterBelow(" + depth + ")", x.waterBelow(depth), 180);
        }
        C.due("cracks alone", States.cracks(20).waterBelow(20), 0);
    }

    // ---- promise 6

    private static void renew() {
        renewWithoutACore();
        renewAtTheTop();
        renewOfEverything();
        renewOfTicks();
        renewOfVials();
        renewOfTheDepth();
        renewKeepsSettingsAndSegments();
        renewIsAChange();
    }

    private static void renewWithoutACore() {
        C.sentence(6, "Returns the front that was.");
        C.due("without a core", new CoreMelter().renew(), 0);
        CoreMelter x = three();
        C.due("nothing has melted", x.renew(), 0);
        x.run(1);
        C.due("the front", x.count(10), 10);
        C.due("behind the crack", x.renew(), 10);
        C.due("it is 0 now", x.renew(), 0);
    }

    private static void renewAtTheTop() {
        C.sentence(6, "Begins with the same core anew: the front is at 0");
        CoreMelter x = three();
        x.run(20);
        C.counts("at the top", x, 9, 15, 15);
        C.due("renew()", x.renew(), 15);
        C.counts("at 0", x, 9, 15, 0);
        C.segment("nothing has melted", x, 0, 0, 3, 60, 10, 0, 0);
        C.due("and again", x.run(20), 15);
    }

    /** A renewed melter and a new one with the same core and settings tell the same. */
    private static void renewOfEverything() {
        C.sentence(6, "the store, the stock, its gas and dirt, all accounts, ticks (with the reason of the latest one"
            + " and those in which melting was stopped), lines, vials and the depth that is told are as initially");
        CoreMelter x = States.busy();
        for (int what = 8; what <= 23; what++) {
            C.due("count(" + what + ") is not 0 ahead of it", x.count(what) > 0 ? 1 : 0, 1);
        }
        C.due("renew()", x.renew(), 23);
        CoreMelter y = new CoreMelter();
        y.addSegment(0, 6, 80, 4);
        y.addSegment(1, 3, 0, 0);
        y.addSegment(2, 6, 61, 90);
        y.addSegment(0, 100, 75, 50);
        Checks.settings(y, 190, 50, 100, 45, 134, 40, 200, 9);
        Checks.type(y, "crack 5;dust 7 60");
        C.same("renewed", x, y);
    }

    private static void renewOfTicks() {
        C.sentence(6, "ticks (with the reason of the latest one and those in which melting was stopped)");
        CoreMelter x = States.old(20, 0);
        C.counts("20000 ticks", x, 18, 20000, 1, 20000);
        C.due("not one more", x.run(1), -3);
        x.renew();
        C.counts("none", x, 18, 0, 0, 0);
        C.due("1000 more", x.run(1000), 0);
        C.counts("1000 ticks", x, 18, 1000, 1, 1000);
    }

    private static void renewOfVials() {
        C.sentence(6, "lines, vials and the depth that is told are as initially");
        CoreMelter x = States.steady(50);
        x.run(43);
        C.counts("40 vials", x, 15, 43, 40, 180);
        x.renew();
        C.counts("no vial", x, 15, 0, 0, 0);
        C.due("vial(0, 0)", x.vial(0, 0), INVALID);
        C.due("vialAt(0)", x.vialAt(0), -4);
        x.run(1);
        C.vial("the first again", x, 0, 60, 1, 0, 1);
        C.due("vial(1, 0)", x.vial(1, 0), INVALID);
    }

    private static void renewOfTheDepth() {
        C.sentence(6, "lines, vials and the depth that is told are as initially");
        CoreMelter x = new CoreMelter();
        x.addSegment(0, 9, 61, 0);
        x.set(3, 15);
        C.due("180 of 61, 61 and 61", x.run(3), 2);
        x.renew();
        C.counts("nothing is drawn", x, 15, 0);
        C.due("60 of 61", x.run(1), 0);
        x.renew();
        x.set(3, 16);
        C.due("64 of 61", x.run(1), 1);
    }

    private static void renewKeepsSettingsAndSegments() {
        C.sentence(6, "Settings and segments stay.");
        CoreMelter x = States.busy();
        x.renew();
        C.counts("settings", x, 0, 190, 50, 100, 45, 134, 40, 200, 9);
        C.counts("segments", x, 8, 4, 115);
        C.segment("the last", x, 3, 0, 100, 75, 50, 15, 0);
        C.due("the text too", x.count(23), 17);
    }

    private static void renewIsAChange() {
        C.sentence(6, "The changes are the calls of addSegment, lay, set, clean, run and renew that return no error.");
        CoreMelter x = new CoreMelter();
        x.renew();
        C.due("a state", x.count(22), 1);
        CoreMelter y = States.busy();
        y.renew();
        C.due("still five", y.count(22), 5);
        y.undo();
        C.counts("all is back", y, 10, 23, 614, 6, 3, 1, 22, 3, 180, 8, 3, 1, 3, 4, 17);
    }

    // ---- promise 7

    private static void undo() {
        undoOfNothing();
        undoOfOne();
        statesThatAreLeft();
        fiveStates();
        sixStates();
        undoRestoresAll();
        undoLeavesTheText();
        changes();
        noChanges();
    }

    private static void undoOfNothing() {
        C.sentence(7, "NOT_POSSIBLE if it is empty");
        C.due("new", new CoreMelter().undo(), -2);
        C.changesNothing("undo() of nothing", CoreMelter::new, CoreMelter::undo, -2);
        CoreMelter x = States.busy();
        for (int left = 4; left >= 0; left--) {
            C.due("undo()", x.undo(), left);
        }
        int front = x.count(10);
        C.due("a sixth", x.undo(), -2);
        C.due("the front stays", x.count(10), front);
        C.due("the settings stay", x.count(6), 50);
        C.due("the text stays", x.count(23), 17);
        C.due("states", x.count(22), 0);
    }

    private static void undoOfOne() {
        C.sentence(7, "Restores the latest state of the history, which is removed from it.");
        CoreMelter x = new CoreMelter();
        x.addSegment(0, 5, 60, 0);
        C.due("states", x.count(22), 1);
        C.due("undo()", x.undo(), 0);
        C.counts("without a core again", x, 8, 0, 0);
        C.due("states", x.count(22), 0);
        x.set(0, 7);
        x.set(0, 8);
        C.due("undo()", x.undo(), 1);
        C.due("the latest", x.count(0), 7);
        C.due("undo()", x.undo(), 0);
        C.due("the one before", x.count(0), 100);
    }

    private static void statesThatAreLeft() {
        C.sentence(7, "Returns the number of states that are left in the history");
        for (int states = 1; states <= 6; states++) {
            CoreMelter x = States.cracks(states);
            for (int left = Math.min(states, 5) - 1; left >= 0; left--) {
                C.due("undo() of " + states, x.undo(), left);
                C.due("count(22)", x.count(22), left);
            }
            C.due("one more", x.undo(), -2);
            C.due("segments", x.count(8), Math.max(0, states - 5));
        }
    }

    private static void fiveStates() {
        C.sentence(7, "A history of at most 5 states is kept");
        CoreMelter x = new CoreMelter();
        for (int power = 1; power <= 5; power++) {
            x.set(0, power);
            C.due("states", x.count(22), power);
        }
        int[] want = {4, 3, 2, 1, 100};
        for (int i = 0; i < 5; i++) {
            C.due("undo()", x.undo(), 4 - i);
            C.due("power", x.count(0), want[i]);
        }
        C.due("there is no sixth", x.undo(), -2);
    }

    private static void sixStates() {
        C.sentence(7, "if there are 6 states then, the oldest one is dropped");
        for (int changes = 6; changes <= 17; changes++) {
            CoreMelter x = new CoreMelter();
            for (int power = 1; power <= changes; power++) {
                x.set(0, power);
            }
            C.due("states behind " + changes, x.count(22), 5);
            for (int left = 4; left >= 0; left--) {
                C.due("undo()", x.undo(), left);
                C.due("power", x.count(0), changes - 5 + left);
            }
            C.due("the oldest one is dropped", x.undo(), -2);
            C.due("power stays", x.count(0), changes - 5);
            x.set(0, 200);
            C.due("a new one", x.undo(), 0);
            C.due("power", x.count(0), changes - 5);
        }
    }

    /** What the five changes leave is overwritten, and not only cut off: other vials, other waste, another core. */
    private static void undoRestoresAll() {
        C.sentence(7, "each change records everything before it but the text");
        CoreMelter x = States.busy();
        x.clean(3);
        x.renew();
        x.set(3, 17);
        x.addSegment(1, 300, 0, 0);
        x.run(1000);
        C.due("ticks are otherwise", x.count(18), 1000);
        C.due("all vials are overwritten", x.count(16) > 3 ? 1 : 0, 1);
        C.due("vial 1 is another", x.vial(1, 0) != 360 && x.vial(1, 1) != 9 && x.vial(1, 3) != 3 ? 1 : 0, 1);
        C.due("the waste of line 3 is another", x.line(3, 4) != 90 ? 1 : 0, 1);
        CoreMelter y = States.busy();
        for (int i = 0; i < 5; i++) {
            y.set(0, 1);
        }
        for (int left = 4; left >= 0; left--) {
            C.due("undo()", x.undo(), left);
            y.undo();
        }
        C.counts("as it was", x, 0, 190, 50, 100, 45, 134, 40, 200, 9, 4, 115, 23, 614, 6, 3, 1, 22, 3, 180, 8, 3, 1, 3);
        C.vial("as it was", x, 1, 360, 9, 2, 3);
        C.line("as it was", x, 3, 1, 136, 1, 360, 90);
        C.same("as it was", x, y);
    }

    private static void undoLeavesTheText() {
        C.sentence(7, "each change records everything before it but the text");
        CoreMelter x = new CoreMelter();
        x.set(0, 5);
        Checks.type(x, "crack 1;");
        x.undo();
        C.due("typed behind the change", x.count(23), 8);
        x.lay();
        x.clearText();
        x.undo();
        C.due("emptied behind the change", x.count(23), 0);
        C.due("no segment", x.count(8), 0);
    }

    private static void changes() {
        C.sentence(7, "The changes are the calls of addSegment, lay, set, clean, run and renew that return no error.");
        CoreMelter x = States.dusty(100);
        for (int i = 0; i < 3; i++) {
            x.undo();
        }
        C.due("no state", x.count(22), 0);
        x.addSegment(2, 100, 60, 100);
        C.due("addSegment", x.count(22), 1);
        x.set(4, 100);
        C.due("set", x.count(22), 2);
        x.run(1);
        C.due("run", x.count(22), 3);
        x.clean(0);
        C.due("clean", x.count(22), 4);
        x.renew();
        C.due("renew", x.count(22), 5);
        C.due("undo() of renew", x.undo(), 4);
        C.due("undo() of clean", x.undo(), 3);
        C.due("the line is stuck again", x.line(0, 0), 1);
        C.due("undo() of run", x.undo(), 2);
        C.due("no tick", x.count(18), 0);
        C.due("undo() of set", x.undo(), 1);
        C.due("the setting", x.count(4), 500);
        x.lay();
        C.due("lay of an empty text", x.count(22), 2);
        x.set(4, 500);
        C.due("set to the same value", x.count(22), 3);
    }

    private static void noChanges() {
        C.sentence(7, "The changes are the calls of addSegment, lay, set, clean, run and renew that return no error.");
        CoreMelter x = new CoreMelter();
        Checks.type(x, "ice");
        x.lay();
        x.addSegment(0, 0, 60, 0);
        x.set(0, 201);
        x.clean(0);
        x.clean(4);
        x.run(0);
        x.run(1001);
        x.undo();
        x.fault(0);
        x.clearText();
        x.ifRun(1, 0);
        x.ticksTo(1);
        x.flowFor(1);
        x.again();
        x.vialAt(0);
        C.due("none of them", x.count(22), 0);
        C.due("nothing to undo", x.undo(), -2);
    }

    // ---- promise 8

    private static final int[] LEAST = {0, 10, 100, 1, 50, 5, 50, 0};
    private static final int[] MOST = {200, 200, 20000, 500, 5000, 200, 5000, 50};
    private static final int[] INITIAL = {100, 50, 2000, 60, 500, 40, 500, 5};
    private static final String[] WORDS = {
        "0 power 0 to 200, 100", "1 heat 10 to 200, 50", "2 stock limit 100 to 20000, 2000", "3 flow 1 to 500, 60",
        "4 dirt limit 50 to 5000, 500", "5 bubble limit 5 to 200, 40", "6 vial 50 to 5000, 500", "7 lag 0 to 50, 5"};

    private static void set() {
        for (int what = 0; what < 8; what++) {
            setInItsRange(what);
            setOutOfItsRange(what);
        }
        setOfNoSetting();
        setOfTheValueThatIs();
        setReturnsThePrevious();
    }

    private static void setInItsRange(int what) {
        C.sentence(8, WORDS[what]);
        CoreMelter x = new CoreMelter();
        C.due("initially", x.count(what), INITIAL[what]);
        C.due("the least", x.set(what, LEAST[what]), INITIAL[what]);
        C.due("it is so", x.count(what), LEAST[what]);
        C.due("the most", x.set(what, MOST[what]), LEAST[what]);
        C.due("it is so", x.count(what), MOST[what]);
        for (int other = 0; other < 8; other++) {
            C.due("the others stay", x.count(other), other == what ? MOST[other] : INITIAL[other]);
        }
    }

    private static void setOutOfItsRange(int what) {
        C.sentence(8, WORDS[what]);
        for (int value : new int[] {LEAST[what] - 1, MOST[what] + 1, MIN, MAX}) {
            String call = "set(" + what + ", " + value + ")";
            C.changesNothing(call, CoreMelter::new, x -> x.set(what, value), INVALID);
            C.changesNothing(call, States::busy, x -> x.set(what, value), INVALID);
        }
    }

    private static void setOfNoSetting() {
        C.sentence(8, "`what`: 0 to 7");
        CoreMelter x = new CoreMelter();
        C.due("set(0, 60)", x.set(0, 60), 100);
        C.due("set(7, 50)", x.set(7, 50), 5);
        for (int what : new int[] {-1, 8, 9, MIN, MAX}) {
            for (int value : new int[] {0, 50, 100}) {
                C.changesNothing("set(" + what + ", " + value + ")", States::busy, y -> y.set(what, value), INVALID);
            }
        }
    }

    private static void setOfTheValueThatIs() {
        C.sentence(8, "`value`: a value in its range");
        CoreMelter x = new CoreMelter();
        for (int what = 0; what < 8; what++) {
            C.due("the same value", x.set(what, INITIAL[what]), INITIAL[what]);
            C.due("a value of another's range alone", x.set(what, what == 7 ? 100 : 0), what == 0 ? INITIAL[0] : INVALID);
        }
    }

    private static void setReturnsThePrevious() {
        C.sentence(8, "Returns the previous value; INVALID_ARGUMENT if an argument is out of range.");
        CoreMelter x = new CoreMelter();
        C.due("set(0, 0)", x.set(0, 0), 100);
        C.due("set(0, 201)", x.set(0, 201), INVALID);
        C.due("set(0, 200)", x.set(0, 200), 0);
        C.due("set(0, 200)", x.set(0, 200), 200);
        x.undo();
        x.undo();
        C.due("the restored one", x.set(0, 1), 0);
    }
}
