/** Promises 14 to 19: one test for each sentence of the document that names an edge. */
public final class VialBoundaryTest {
    private static final Checks C = new Checks("VialBoundaryTest");
    private static final int INVALID = -1;
    private static final int MIN = Integer.MIN_VALUE;
    private static final int MAX = Integer.MAX_VALUE;

    public static void main(String[] args) {
        C.document(args);
        again();
        sealing();
        vial();
        vialAt();
        ifRun();
        ticksTo();
        flowFor();
        C.close();
    }

    private static CoreMelter ice(int length, int density, int flow) {
        CoreMelter x = new CoreMelter();
        x.addSegment(0, length, density, 0);
        Checks.settings(x, 200, 10, 20000, flow);
        return x;
    }

    // ---- promise 14

    private static void again() {
        againWithoutWater();
        againByTheWaterDrawn();
        againAtMostTheFront();
        againOverCracks();
        againIsWhatIsTold();
    }

    private static void againWithoutWater() {
        C.sentence(14, "by the water that was drawn in all");
        C.due("without a core", new CoreMelter().again(), 0);
        CoreMelter x = ice(9, 60, 15);
        C.due("nothing is drawn", x.again(), 0);
        x.run(3);
        x.renew();
        C.due("renewed", x.again(), 0);
        x.undo();
        C.due("and as it was", x.again(), 3);
        C.changesNothing("again()", States::busy, CoreMelter::again, 22);
    }

    private static int again(int length, int density, int flow) {
        CoreMelter x = ice(length, density, flow);
        x.run(1);
        return x.again();
    }

    private static void againByTheWaterDrawn() {
        C.sentence(14, "by the water that was drawn in all");
        C.due("60 of 60", again(1, 60, 15), 1);
        C.due("56 of 60", again(1, 60, 14), 0);
        C.due("60 of 61", again(1, 61, 15), 0);
        C.due("120 of 60 and 60", again(9, 60, 30), 2);
        C.due("120 of 61 and 61", again(9, 61, 30), 1);
        C.due("124 of 61 and 61", again(9, 61, 31), 2);
        CoreMelter x = new CoreMelter();
        x.addSegment(0, 1, 60, 50);
        x.set(3, 15);
        x.run(1);
        C.due("60 that were wasted", x.again(), 1);
    }

    private static void againAtMostTheFront() {
        C.sentence(14, "from the lower end up, at most the front");
        CoreMelter x = ice(2, 60, 30);
        x.addSegment(1, 5, 0, 0);
        x.set(2, 120);
        x.run(1);
        C.counts("below the crack", x, 10, 2);
        C.due("all is drawn", x.again(), 2);
        x.run(1);
        C.due("the front has leapt", x.again(), 7);
        x.addSegment(1, 5, 0, 0);
        C.due("a crack on top", x.again(), 7);
        x = States.cracks(20);
        C.due("nothing has melted", x.again(), 0);
        x.run(1);
        C.due("cracks alone", x.again(), 20);
    }

    private static void againOverCracks() {
        C.sentence(14, "(so the end of a crack rather than its begin, if the front has come there)");
        int[] flows = {14, 15, 30, 31};
        int[] want = {0, 6, 6, 7};
        for (int i = 0; i < flows.length; i++) {
            CoreMelter x = ice(1, 60, flows[i]);
            x.addSegment(1, 5, 0, 0);
            x.addSegment(0, 1, 61, 0);
            x.run(1);
            C.due("a flow of " + flows[i], x.again(), want[i]);
        }
    }

    private static void againIsWhatIsTold() {
        C.sentence(14, "Finds the depth that is told in a second way");
        CoreMelter x = new CoreMelter();
        for (int i = 0; i < 20; i++) {
            boolean crack = i % 3 == 1;
            x.addSegment(i % 3, 4, crack ? 0 : 60 + i, crack ? 0 : 2 * i + 1);
        }
        Checks.settings(x, 33, 37, 150, 11, 5000);
        C.counts("a full core", x, 8, 20, 80);
        for (int i = 0; i < 130; i++) {
            int told = x.run(1);
            C.due("behind tick " + (i + 1), x.again(), told);
        }
        C.due("the whole of it", x.again(), 80);
    }

    // ---- promise 15: sealing

    private static void sealing() {
        sealedWithEnough();
        sealedBehindATick();
        sealedAtTheEndsOfTheSetting();
        sealedWithItsNumbers();
        sealedWithTheDepthToldBehindTheTick();
        theNextOneIsEmpty();
        fortyVials();
    }

    private static void sealedWithEnough() {
        C.sentence(15, "If, behind a tick, it has at least as much as the setting");
        CoreMelter x = States.steady(60);
        x.run(1);
        C.counts("60 of 60", x, 16, 1, 0);
        x = States.steady(61);
        x.run(1);
        C.counts("60 of 61", x, 16, 0, 60);
        x.run(1);
        C.counts("120 of 61", x, 16, 1, 0);
        x = States.steady(120);
        x.run(1);
        C.counts("60 of 120", x, 16, 0, 60);
        x.run(1);
        C.counts("120 of 120", x, 16, 1, 0);
    }

    private static void sealedBehindATick() {
        C.sentence(15, "If, behind a tick, it has at least as much as the setting");
        CoreMelter x = States.steady(5000);
        x.run(3);
        x.set(6, 50);
        C.counts("not by a setting", x, 16, 0, 180);
        x.set(0, 0);
        x.run(1);
        C.counts("by a tick without melting", x, 16, 1, 0);
        C.vial("all that it had", x, 0, 180, 3, 0, 4);
        x = new CoreMelter();
        x.addSegment(0, 3, 60, 0);
        x.set(6, 50);
        x.run(1);
        C.counts("three lines in one tick fill one vial", x, 16, 1, 0);
        C.vial("all that they drew", x, 0, 180, 3, 0, 1);
        x.run(5);
        C.counts("an empty one is not sealed", x, 16, 1, 0);
    }

    private static void sealedAtTheEndsOfTheSetting() {
        C.sentence(15, "6 vial 50 to 5000, 500");
        CoreMelter x = States.steady(5000);
        x.run(83);
        C.counts("4980 of 5000", x, 16, 0, 4980);
        x.run(1);
        C.vial("5040 of 5000", x, 0, 5040, 84, 0, 84);
        x = States.steady(50);
        x.set(3, 12);
        x.run(1);
        C.counts("48 of 50", x, 16, 0, 48);
        x.renew();
        x.set(3, 13);
        x.run(1);
        C.vial("52 of 50", x, 0, 52, 0, 0, 1);
    }

    private static void sealedWithItsNumbers() {
        C.sentence(15, "with its water, the depth that is told behind this tick, and the number of ticks that have gone by,"
            + " this one included");
        CoreMelter x = States.steady(60);
        x.run(3);
        C.vial("the first tick", x, 0, 60, 1, 0, 1);
        C.vial("the second tick", x, 1, 60, 2, 1, 2);
        C.vial("the third tick", x, 2, 60, 3, 2, 3);
        x.set(0, 0);
        x.run(997);
        x.set(0, 30);
        x.run(1);
        C.vial("a late tick", x, 3, 60, 4, 3, 1001);
    }

    private static void sealedWithTheDepthToldBehindTheTick() {
        C.sentence(15, "the depth that is told behind this tick");
        CoreMelter x = ice(2, 80, 15);
        x.set(6, 60);
        x.run(1);
        C.counts("the front", x, 10, 2);
        C.vial("60 of 80", x, 0, 60, 0, 0, 1);
        x.run(1);
        C.vial("120 of 80 and 80", x, 1, 60, 1, 0, 2);
        x.run(1);
        C.counts("all is drawn", x, 15, 2, 2, 40);
        x.set(6, 50);
        x.addSegment(1, 7, 0, 0);
        x.addSegment(0, 1, 80, 0);
        x.run(1);
        C.vial("behind a crack", x, 2, 100, 9, 1, 4);
    }

    private static void theNextOneIsEmpty() {
        C.sentence(15, "the next one is empty");
        CoreMelter x = States.steady(100);
        x.run(2);
        C.counts("sealed", x, 16, 1, 0);
        x.run(1);
        C.counts("60 in the next one", x, 16, 1, 60);
        x.run(1);
        C.vial("of its own", x, 1, 120, 4, 2, 4);
    }

    private static void fortyVials() {
        C.sentence(15, "fewer than 40 vials are sealed");
        CoreMelter x = States.steady(50);
        x.run(39);
        C.counts("39", x, 16, 39, 0);
        C.due("there is no vial 39", x.vial(39, 0), INVALID);
        x.run(1);
        C.counts("the 40th", x, 16, 40, 0);
        C.vial("the 40th", x, 39, 60, 40, 39, 40);
        C.sentence(15, "(So behind the 40th sealed one the present vial goes on being filled.");
        x.run(1);
        C.counts("a 41st is filled", x, 16, 40, 60);
        x.run(1);
        C.counts("and filled", x, 16, 40, 120);
        C.due("there is no vial 40", x.vial(40, 0), INVALID);
        C.vial("the 40th stays", x, 39, 60, 40, 39, 40);
        x.run(258);
        C.counts("to the end", x, 16, 40, 260 * 60);
        C.due("told", x.count(15), 300);
    }

    // ---- promise 15: the call

    private static void vial() {
        vialsInRange();
        propertiesInRange();
        inTheOrderOfSealing();
        theVialBefore();
    }

    private static CoreMelter vials(int many) {
        CoreMelter x = States.steady(50);
        if (many > 0) {
            x.run(many);
        }
        return x;
    }

    private static void vialsInRange() {
        C.sentence(15, "If there is no segment, line or vial with a certain number, this is INVALID_ARGUMENT.");
        for (int many : new int[] {0, 1, 2, 39, 40, 41, 50}) {
            CoreMelter x = vials(many);
            int sealed = Math.min(many, 40);
            if (sealed > 0) {
                C.due("the first of " + sealed, x.vial(0, 3), 1);
                C.due("the last of " + sealed, x.vial(sealed - 1, 3), sealed);
            }
            for (int vial : new int[] {-1, sealed, sealed + 1, MIN, MAX}) {
                C.vial("vial " + vial + " of " + sealed, x, vial, INVALID, INVALID, INVALID, INVALID);
            }
        }
        CoreMelter x = vials(2);
        x.undo();
        C.due("undone", x.vial(0, 0), INVALID);
        C.changesNothing("vial(3, 0)", States::busy, y -> y.vial(3, 0), INVALID);
    }

    private static void propertiesInRange() {
        C.sentence(15, "Returns the property; INVALID_ARGUMENT if an argument is out of range.");
        CoreMelter x = vials(2);
        C.vial("all of them", x, 1, 60, 2, 1, 2);
        for (int what : new int[] {-1, 4, 5, MIN, MAX}) {
            C.due("vial(0, " + what + ")", x.vial(0, what), INVALID);
            C.due("vial(1, " + what + ")", x.vial(1, what), INVALID);
            C.due("vial(2, " + what + ")", x.vial(2, what), INVALID);
        }
    }

    private static void inTheOrderOfSealing() {
        C.sentence(15, "`vial`: number of the vial, from 0 in the order in which they were sealed");
        CoreMelter x = vials(40);
        for (int vial = 0; vial < 40; vial++) {
            C.vial("vial " + vial, x, vial, 60, vial + 1, vial, vial + 1);
        }
    }

    private static void theVialBefore() {
        C.sentence(15, "2: the depth of the vial before (0 for the first one)");
        CoreMelter x = States.steady(200);
        x.run(12);
        C.vial("the first", x, 0, 240, 4, 0, 4);
        C.vial("the second", x, 1, 240, 8, 4, 8);
        C.vial("the last", x, 2, 240, 12, 8, 12);
        CoreMelter one = vials(1);
        C.vial("the only one", one, 0, 60, 1, 0, 1);
    }

    // ---- promise 16

    private static void vialAt() {
        vialOfADepth();
        vialsOfOneDepth();
        depthsFromZeroOn();
        noVialOfADepth();
        negativeDepthOfAVial();
    }

    private static void vialOfADepth() {
        C.sentence(16, "the first one that is sealed whose depth is greater than this");
        CoreMelter x = States.steady(200);
        x.run(15);
        int[] depths = {0, 3, 4, 7, 8, 11, 12, 13};
        int[] want = {0, 0, 1, 1, 2, 2, -4, -4};
        for (int i = 0; i < depths.length; i++) {
            C.due("vialAt(" + depths[i] + ")", x.vialAt(depths[i]), want[i]);
        }
        x = vials(43);
        C.due("the last of 40", x.vialAt(39), 39);
        C.due("behind the last of 40", x.vialAt(40), -4);
    }

    private static void vialsOfOneDepth() {
        C.sentence(16, "the first one that is sealed whose depth is greater than this");
        CoreMelter x = ice(9, 92, 13);
        x.set(6, 50);
        x.run(4);
        int[] depths = {0, 1, 1, 2};
        for (int vial = 0; vial < 4; vial++) {
            C.due("depth of vial " + vial, x.vial(vial, 1), depths[vial]);
        }
        C.due("not the one of depth 0, and the first of two", x.vialAt(0), 1);
        C.due("none of both", x.vialAt(1), 3);
        C.due("behind all", x.vialAt(2), -4);
    }

    private static void depthsFromZeroOn() {
        C.sentence(16, "`depth`: 0 or more");
        CoreMelter x = States.steady(100);
        x.run(2);
        C.due("0", x.vialAt(0), 0);
        C.due("1", x.vialAt(1), 0);
        C.due("the depth of the last one", x.vialAt(2), -4);
        C.due("more than the core is long", x.vialAt(301), -4);
    }

    private static void noVialOfADepth() {
        C.sentence(16, "NOT_FOUND if there is none");
        C.due("without a core", new CoreMelter().vialAt(0), -4);
        CoreMelter x = States.steady(100);
        x.run(1);
        C.due("the present one is not sealed", x.vialAt(0), -4);
        x.run(1);
        C.due("now it is", x.vialAt(0), 0);
        C.due("of the greatest depth", x.vialAt(MAX), -4);
        C.changesNothing("vialAt(MAX)", States::busy, y -> y.vialAt(MAX), -4);
    }

    private static void negativeDepthOfAVial() {
        C.sentence(16, "INVALID_ARGUMENT if depth is negative");
        for (int depth : new int[] {-1, MIN}) {
            C.due("without a vial", new CoreMelter().vialAt(depth), INVALID);
            C.changesNothing("vialAt(" + depth + ")", States::busy, x -> x.vialAt(depth), INVALID);
        }
    }

    // ---- promise 17

    private static void ifRun() {
        ticksIfRun();
        whatIfRun();
        theLastTicksIfRun();
        wrongArgumentsAtTheLimit();
        ifRunIsAsRun();
        depthsIfRun();
        waterIfRun();
        stuckLinesIfRun();
        ifRunWithoutACore();
        ifRunChangesNothing();
        ifRunBehindFortyVials();
    }

    private static void ticksIfRun() {
        C.sentence(17, "`ticks`: 1 to 1000");
        C.due("one", new CoreMelter().ifRun(1, 6), 1);
        C.due("1000", new CoreMelter().ifRun(1000, 6), 1000);
        for (int ticks : new int[] {0, -1, 1001, 20001, MIN, MAX}) {
            C.changesNothing("ifRun(" + ticks + ", 0)", States::busy, x -> x.ifRun(ticks, 0), INVALID);
        }
    }

    private static void whatIfRun() {
        C.sentence(17, "Returns the number; INVALID_ARGUMENT if an argument is out of range");
        CoreMelter x = States.steady(50);
        x.run(10);
        int[] want = {13, 13, 180, 0, 3, 0, 0};
        for (int what = 0; what <= 6; what++) {
            C.due("ifRun(3, " + what + ")", x.ifRun(3, what), want[what]);
        }
        for (int what : new int[] {-1, 7, 8, MIN, MAX}) {
            C.changesNothing("ifRun(1, " + what + ")", States::busy, y -> y.ifRun(1, what), INVALID);
            C.due("ifRun(0, " + what + ")", x.ifRun(0, what), INVALID);
        }
    }

    private static void theLastTicksIfRun() {
        C.sentence(17, "LIMIT_REACHED if more than 20000 would have gone by");
        CoreMelter x = States.old(19, 0);
        C.due("1000 of 1000", x.ifRun(1000, 6), 1000);
        x.run(1);
        C.due("999 of 999", x.ifRun(999, 6), 999);
        C.due("1000 of 999", x.ifRun(1000, 6), -3);
        x.run(998);
        C.due("one of one", x.ifRun(1, 6), 1);
        C.due("two of one", x.ifRun(2, 6), -3);
        for (int what = 0; what <= 6; what++) {
            int w = what;
            C.changesNothing("one of none", () -> States.old(20, 0), y -> y.ifRun(1, w), -3);
        }
    }

    private static void wrongArgumentsAtTheLimit() {
        C.sentence(17, "INVALID_ARGUMENT is returned rather than NOT_POSSIBLE, NOT_POSSIBLE rather than LIMIT_REACHED");
        CoreMelter x = States.old(20, 0);
        C.due("no tick", x.ifRun(0, 0), INVALID);
        C.due("too many ticks", x.ifRun(1001, 0), INVALID);
        C.due("far too many ticks", x.ifRun(MAX, 0), INVALID);
        C.due("below all properties", x.ifRun(1, -1), INVALID);
        C.due("above all properties", x.ifRun(1, 7), INVALID);
    }

    private static void ifRunIsAsRun() {
        C.sentence(17, "Tells what would be if ticks went by.");
        for (int ticks : new int[] {1, 2, 30, 999, 1000}) {
            CoreMelter x = States.busy();
            CoreMelter then = States.busy();
            then.set(2, 2000);
            x.set(2, 2000);
            then.run(ticks);
            int[] want = {then.count(15), then.count(10), then.account(1) - x.account(1), then.account(2) - x.account(2),
                then.count(16) - x.count(16), then.count(21), then.count(20) - x.count(20)};
            for (int what = 0; what <= 6; what++) {
                C.due("ifRun(" + ticks + ", " + what + ")", x.ifRun(ticks, what), want[what]);
            }
        }
    }

    private static void depthsIfRun() {
        C.sentence(17, "0: the depth that is told then; 1: the front then");
        CoreMelter x = ice(33, 60, 15);
        C.due("told: 60 drawn", x.ifRun(1, 0), 1);
        C.due("front", x.ifRun(1, 1), 33);
        C.due("told: all but 60 drawn", x.ifRun(32, 0), 32);
        C.due("told: all drawn", x.ifRun(33, 0), 33);
        C.due("told: and nothing more", x.ifRun(1000, 0), 33);
        C.due("front", x.ifRun(1000, 1), 33);
    }

    private static void waterIfRun() {
        C.sentence(17, "2: by how much more is collected; 3: by how much more is wasted");
        CoreMelter x = new CoreMelter();
        x.addSegment(0, 1, 60, 50);
        x.addSegment(0, 2, 60, 0);
        Checks.settings(x, 30, 50, 2000, 60, 500, 40, 500, 1);
        int[] collected = {0, 0, 60, 60};
        int[] wasted = {60, 120, 120, 120};
        for (int ticks = 1; ticks <= 4; ticks++) {
            C.due("collected in " + ticks, x.ifRun(ticks, 2), collected[ticks - 1]);
            C.due("wasted in " + ticks, x.ifRun(ticks, 3), wasted[ticks - 1]);
        }
        x.run(2);
        C.due("collected from here", x.ifRun(1, 2), 60);
        C.due("wasted from here", x.ifRun(1, 3), 0);
        x.run(1);
        C.due("collected behind all", x.ifRun(1, 2), 0);
        C.due("wasted behind all", x.ifRun(1, 3), 0);
    }

    private static void stuckLinesIfRun() {
        C.sentence(17, "5: the stuck lines then");
        CoreMelter x = new CoreMelter();
        x.addSegment(2, 300, 60, 50);
        x.set(0, 30);
        x.set(4, 50);
        C.due("none yet", x.count(21), 0);
        int[] want = {1, 2, 3, 4, 4};
        for (int ticks = 1; ticks <= 5; ticks++) {
            C.due("stuck lines in " + ticks, x.ifRun(ticks, 5), want[ticks - 1]);
        }
        x.run(4);
        C.due("those that are stuck already", x.ifRun(1, 5), 4);
        C.due("in how many it is stopped", x.ifRun(3, 6), 3);
    }

    private static void ifRunWithoutACore() {
        C.sentence(17, "6: in how many of the ticks melting is stopped");
        CoreMelter x = new CoreMelter();
        int[] want = {0, 0, 0, 0, 0, 0, 9};
        for (int what = 0; what <= 6; what++) {
            C.due("ifRun(9, " + what + ")", x.ifRun(9, what), want[what]);
        }
        x.run(5);
        C.due("those before are not counted", x.ifRun(1, 6), 1);
    }

    private static void ifRunChangesNothing() {
        C.sentence(17, "---- what would be; nothing changes.");
        CoreMelter then = States.busy();
        then.run(1000);
        C.changesNothing("ifRun(1000, 0)", States::busy, x -> x.ifRun(1000, 0), then.count(15));
        C.changesNothing("ifRun(1000, 1)", States::busy, x -> x.ifRun(1000, 1), then.count(10));
        C.changesNothing("ifRun(1000, 5)", States::busy, x -> x.ifRun(1000, 5), then.count(21));
    }

    private static void ifRunBehindFortyVials() {
        C.sentence(17, "4: how many more vials are sealed");
        CoreMelter x = vials(38);
        C.due("one more", x.ifRun(1, 4), 1);
        C.due("two more", x.ifRun(2, 4), 2);
        C.due("there is no third", x.ifRun(3, 4), 2);
        x.run(2);
        C.due("no more", x.ifRun(100, 4), 0);
        C.due("but more is collected", x.ifRun(100, 2), 6000);
    }

    // ---- promise 18

    private static void ticksTo() {
        ticksToDepthsFromZeroOn();
        ticksToWhatIsSo();
        ticksToTheTop();
        ticksToTwoThousand();
        ticksToTheLast();
        ticksToANegativeDepth();
        ticksToChangesNothing();
    }

    private static void ticksToDepthsFromZeroOn() {
        C.sentence(18, "`depth`: 0 or more");
        C.due("0 without a core", new CoreMelter().ticksTo(0), 0);
        C.due("-1 without a core", new CoreMelter().ticksTo(-1), INVALID);
        CoreMelter x = States.steady(500);
        for (int depth = 0; depth <= 5; depth++) {
            C.due("depth " + depth, x.ticksTo(depth), depth);
        }
    }

    private static void ticksToWhatIsSo() {
        C.sentence(18, "Returns the number of ticks (0 if it is so now)");
        C.due("0 without a core", new CoreMelter().ticksTo(0), 0);
        CoreMelter x = States.steady(500);
        C.due("0 at first", x.ticksTo(0), 0);
        C.due("1 at first", x.ticksTo(1), 1);
        x.run(7);
        C.due("less than is told", x.ticksTo(6), 0);
        C.due("what is told", x.ticksTo(7), 0);
        C.due("one more", x.ticksTo(8), 1);
        C.due("two more", x.ticksTo(9), 2);
        CoreMelter y = States.cracks(3);
        C.due("the first unit of a leap", y.ticksTo(1), 1);
        C.due("the last unit of a leap", y.ticksTo(3), 1);
        C.due("above it", y.ticksTo(4), -4);
        C.due("at the end of all ticks", States.old(20, 0).ticksTo(0), 0);
    }

    private static void ticksToTheTop() {
        C.sentence(18, "Tells after how many ticks the depth that is told is at least a depth.");
        CoreMelter x = States.steady(500);
        C.due("the length", x.ticksTo(300), 300);
        C.due("one more", x.ticksTo(301), -4);
        C.due("far more", x.ticksTo(MAX), -4);
        x.run(300);
        C.due("at the top", x.ticksTo(300), 0);
        C.due("above it", x.ticksTo(301), -4);
        C.due("without a core", new CoreMelter().ticksTo(1), -4);
    }

    /** A unit melts in every 40 ticks. */
    private static CoreMelter slow(int more) {
        CoreMelter x = new CoreMelter();
        x.addSegment(0, 100, 80, 0);
        x.set(0, 1);
        if (more > 0) {
            x.run(more);
        }
        return x;
    }

    private static void ticksToTwoThousand() {
        C.sentence(18, "NOT_FOUND if it is not so behind 2000 ticks");
        C.due("behind 1960", slow(0).ticksTo(49), 1960);
        C.due("behind 2000", slow(0).ticksTo(50), 2000);
        C.due("behind 2040", slow(0).ticksTo(51), -4);
        C.due("behind 1999", slow(1).ticksTo(50), 1999);
        C.due("behind 2001", slow(39).ticksTo(51), -4);
        C.due("behind 2000 from tick 40", slow(40).ticksTo(51), 2000);
        C.changesNothing("behind 2001", () -> slow(39), x -> x.ticksTo(51), -4);
    }

    private static CoreMelter lastTicks(int more) {
        CoreMelter x = States.old(19, more);
        x.addSegment(0, 100, 80, 0);
        x.set(0, 1);
        return x;
    }

    private static void ticksToTheLast() {
        C.sentence(18, "or behind 20000 in all");
        C.due("behind 20000", lastTicks(960).ticksTo(1), 40);
        C.due("behind 20001", lastTicks(961).ticksTo(1), -4);
        C.due("behind 20040", lastTicks(960).ticksTo(2), -4);
        C.due("1000 ticks are left", lastTicks(0).ticksTo(25), 1000);
        C.due("but not 1040", lastTicks(0).ticksTo(26), -4);
        C.due("none is left", lastTicks(1000).ticksTo(1), -4);
        C.due("it is so now", lastTicks(1000).ticksTo(0), 0);
        C.changesNothing("behind 20001", () -> lastTicks(961), x -> x.ticksTo(1), -4);
    }

    private static void ticksToANegativeDepth() {
        C.sentence(18, "INVALID_ARGUMENT if depth is negative");
        for (int depth : new int[] {-1, MIN}) {
            C.due("without a core", new CoreMelter().ticksTo(depth), INVALID);
            C.due("without a tick", States.old(20, 0).ticksTo(depth), INVALID);
            C.changesNothing("ticksTo(" + depth + ")", States::busy, x -> x.ticksTo(depth), INVALID);
        }
    }

    private static void ticksToChangesNothing() {
        C.sentence(18, "---- what would be; nothing changes.");
        C.changesNothing("ticksTo(22)", States::busy, x -> x.ticksTo(22), 0);
        C.changesNothing("ticksTo(23)", States::busy, x -> x.ticksTo(23), 1);
        CoreMelter then = States.busy();
        int ticks = 0;
        while (ticks < 400 && then.count(15) < 115) {
            then.run(1);
            ticks++;
        }
        C.changesNothing("ticksTo(115)", States::busy, x -> x.ticksTo(115), ticks);
        C.changesNothing("ticksTo(116)", States::busy, x -> x.ticksTo(116), -4);
    }

    // ---- promise 19

    private static void flowFor() {
        ticksOfAFlow();
        theLastTicksOfAFlow();
        wrongTicksOfAFlowAtTheLimit();
        theLeastOfSeveral();
        theLeastAndTheGreatestFlow();
        collectedAndNotDrawn();
        flowForChangesNothing();
    }

    private static void ticksOfAFlow() {
        C.sentence(19, "`ticks`: 1 to 300");
        CoreMelter x = States.steady(500);
        C.due("one", x.flowFor(1), 20);
        C.due("300", x.flowFor(300), 20);
        for (int ticks : new int[] {0, -1, 301, 1000, MIN, MAX}) {
            C.changesNothing("flowFor(" + ticks + ")", States::busy, y -> y.flowFor(ticks), INVALID);
            C.due("without a core", new CoreMelter().flowFor(ticks), INVALID);
        }
    }

    private static void theLastTicksOfAFlow() {
        C.sentence(19, "LIMIT_REACHED if more than 20000 would have gone by");
        CoreMelter x = States.old(19, 700);
        C.due("300 of 300", x.flowFor(300), 10);
        x.run(1);
        C.due("299 of 299", x.flowFor(299), 10);
        C.due("300 of 299", x.flowFor(300), -3);
        x.run(298);
        C.due("one of one", x.flowFor(1), 10);
        C.due("two of one", x.flowFor(2), -3);
        C.changesNothing("one of none", () -> States.old(20, 0), y -> y.flowFor(1), -3);
        C.changesNothing("300 of none", () -> States.old(20, 0), y -> y.flowFor(300), -3);
    }

    private static void wrongTicksOfAFlowAtTheLimit() {
        C.sentence(19, "INVALID_ARGUMENT is returned rather than NOT_POSSIBLE, NOT_POSSIBLE rather than LIMIT_REACHED");
        CoreMelter x = States.old(20, 0);
        for (int ticks : new int[] {0, 301, MIN, MAX}) {
            C.due("flowFor(" + ticks + ")", x.flowFor(ticks), INVALID);
        }
    }

    private static int flowFor(int water, int ticks) {
        CoreMelter x = ice(water / 60, 60, 60);
        return x.flowFor(ticks);
    }

    private static void theLeastOfSeveral() {
        C.sentence(19, "with which most would be collected in so many ticks, of several the least one");
        C.due("nothing to collect", new CoreMelter().flowFor(1), 10);
        C.due("60 by four lines: 20 and more", flowFor(60, 1), 20);
        C.due("60 by four lines in two ticks: 10 and more", flowFor(60, 2), 10);
        C.due("120 by four lines: 30 and more", flowFor(120, 1), 30);
        C.due("180 by four lines: 50 and more", flowFor(180, 1), 50);
        C.due("240 by four lines: 60 and more", flowFor(240, 1), 60);
        CoreMelter x = new CoreMelter();
        x.addSegment(0, 10, 80, 50);
        C.due("all is wasted with any flow", x.flowFor(5), 10);
    }

    private static void theLeastAndTheGreatestFlow() {
        C.sentence(19, "Finds the flow, 10, 20, and so on up to 500");
        C.due("1980 by four lines: 500 alone", flowFor(60 * 33, 1), 500);
        C.due("1920 by four lines: 480 and more", flowFor(60 * 32, 1), 480);
        CoreMelter x = ice(33, 60, 60);
        x.set(2, 1921);
        C.due("1980 in the stock: 500 alone", x.flowFor(1), 500);
        x = new CoreMelter();
        x.addSegment(0, 30, 65, 0);
        Checks.settings(x, 200, 10);
        C.due("1950 by four lines: 490 and more", x.flowFor(1), 490);
        C.due("in 300 ticks: 10 and more", x.flowFor(300), 10);
        x.set(3, 1);
        C.due("whatever the setting is", x.flowFor(1), 490);
        C.due("the setting stays", x.count(3), 1);
    }

    private static void collectedAndNotDrawn() {
        C.sentence(19, "with which most would be collected in so many ticks");
        CoreMelter x = new CoreMelter();
        x.addSegment(0, 1, 61, 50);
        x.set(5, 45);
        C.due("with 20 line 0 draws 9 of 30 gas, with 30 too much", x.flowFor(1), 20);
        x.set(3, 20);
        C.due("20 are collected", x.ifRun(1, 2), 20);
        x.set(3, 30);
        C.due("none is collected", x.ifRun(1, 2), 0);
    }

    private static void flowForChangesNothing() {
        C.sentence(19, "---- what would be; nothing changes.");
        C.changesNothing("flowFor(1)", States::busy, x -> x.flowFor(1), 10);
        C.changesNothing("flowFor(300)", () -> States.steady(50),
            x -> x.flowFor(300), 20);
    }
}
