/** Promises 9 to 13: one test for each sentence of the document that names an edge. */
public final class PlateBoundaryTest {
    private static final Checks C = new Checks("PlateBoundaryTest");
    private static final int INVALID = -1;
    private static final int MIN = Integer.MIN_VALUE;
    private static final int MAX = Integer.MAX_VALUE;

    public static void main(String[] args) {
        C.document(args);
        clean();
        run();
        stopping();
        melting();
        drawing();
        wasting();
        sticking();
        telling();
        count();
        account();
        line();
        C.close();
    }

    /** A core of ice alone; a unit of density 60 takes 30 of heat at first. */
    private static CoreMelter ice(int length, int density, int bubbles) {
        CoreMelter x = new CoreMelter();
        x.addSegment(0, length, density, bubbles);
        return x;
    }

    // ---- promise 9

    private static void clean() {
        linesToClean();
        openLineToClean();
        stuckLineToClean();
        cleanedLineDrawsAgain();
        cleanReturnsTheDirt();
    }

    private static void linesToClean() {
        C.sentence(9, "`line`: 0 to 3");
        CoreMelter x = States.dusty(100);
        x.run(1);
        C.due("four stuck lines", x.count(21), 4);
        C.due("clean(0)", x.clean(0), 100);
        C.due("clean(3)", x.clean(3), 100);
        C.line("the first", x, 0, 0, 0, 0);
        C.line("the last", x, 3, 0, 0, 0);
        C.due("two stuck lines", x.count(21), 2);
        C.sentence(9, "INVALID_ARGUMENT if line is out of range");
        for (int line : new int[] {-1, 4, 5, MIN, MAX}) {
            C.changesNothing("clean(" + line + ")", States::busy, y -> y.clean(line), INVALID);
            C.due("without a core", new CoreMelter().clean(line), INVALID);
        }
    }

    private static void openLineToClean() {
        C.sentence(9, "NOT_POSSIBLE if it is open");
        C.line("open, with dirt and a gap", States.busy(), 0, 0, 133, 1);
        C.changesNothing("clean(0)", States::busy, x -> x.clean(0), -2);
        for (int line = 0; line <= 3; line++) {
            C.due("a new one", new CoreMelter().clean(line), -2);
        }
        CoreMelter x = States.busy();
        x.clean(1);
        C.due("a cleaned one", x.clean(1), -2);
    }

    private static void stuckLineToClean() {
        C.sentence(9, "Cleans a stuck line: it is open, its dirt and its gap are 0.");
        CoreMelter x = States.busy();
        C.line("stuck, with a gap", x, 1, 1, 134, 1, 360, 90);
        C.due("clean(1)", x.clean(1), 134);
        C.line("cleaned", x, 1, 0, 0, 0, 360, 90);
        C.line("another", x, 0, 0, 133, 1, 360, 90);
        C.line("another stuck one", x, 2, 1, 136, 1, 360, 90);
        C.due("stuck lines", x.count(21), 2);
        C.due("states", x.count(22), 5);
        C.due("undo()", x.undo(), 4);
        C.line("as it was", x, 1, 1, 134, 1, 360, 90);
    }

    private static void cleanedLineDrawsAgain() {
        C.sentence(9, "Cleans a stuck line: it is open, its dirt and its gap are 0.");
        CoreMelter x = States.dusty(100);
        x.clean(1);
        x.run(1);
        C.line("stuck: it draws nothing", x, 0, 1, 100, 0, 60, 0);
        C.line("cleaned: it draws", x, 1, 1, 100, 0, 120, 0);
    }

    private static void cleanReturnsTheDirt() {
        C.sentence(9, "Returns the dirt that it had");
        CoreMelter x = States.busy();
        C.due("clean(1)", x.clean(1), 134);
        C.due("clean(2)", x.clean(2), 136);
        C.due("clean(3)", x.clean(3), 136);
        C.due("stuck lines", x.count(21), 0);
    }

    // ---- promise 10: the call

    private static void run() {
        ticksOfARun();
        theLastTick();
        wrongTicksAtTheLimit();
        allTicksInAll();
        runReturnsTheDepth();
    }

    private static void ticksOfARun() {
        C.sentence(10, "`ticks`: 1 to 1000");
        CoreMelter x = new CoreMelter();
        C.due("run(1)", x.run(1), 0);
        C.due("ticks", x.count(18), 1);
        C.due("run(1000)", x.run(1000), 0);
        C.due("ticks", x.count(18), 1001);
        for (int ticks : new int[] {0, -1, 1001, 20001, MIN, MAX}) {
            C.changesNothing("run(" + ticks + ")", States::busy, y -> y.run(ticks), INVALID);
        }
        C.changesNothing("run(0)", CoreMelter::new, y -> y.run(0), INVALID);
    }

    private static void theLastTick() {
        C.sentence(10, "LIMIT_REACHED if more than 20000 would have gone by");
        CoreMelter x = States.old(19, 999);
        C.due("one tick is left", x.run(1), 0);
        C.due("ticks", x.count(18), 20000);
        x = States.old(19, 0);
        C.due("1000 ticks are left", x.run(1000), 0);
        C.due("ticks", x.count(18), 20000);
        x = States.old(19, 1);
        C.due("999 ticks are left", x.run(999), 0);
        C.due("ticks", x.count(18), 20000);
        C.changesNothing("two of one", () -> States.old(19, 999), y -> y.run(2), -3);
        C.changesNothing("1000 of 999", () -> States.old(19, 1), y -> y.run(1000), -3);
        C.changesNothing("one of none", () -> States.old(20, 0), y -> y.run(1), -3);
        C.changesNothing("1000 of none", () -> States.old(20, 0), y -> y.run(1000), -3);
    }

    private static void wrongTicksAtTheLimit() {
        C.sentence(10, "INVALID_ARGUMENT is returned rather than NOT_POSSIBLE, NOT_POSSIBLE rather than LIMIT_REACHED");
        for (int ticks : new int[] {0, -1, 1001, MIN, MAX}) {
            C.changesNothing("run(" + ticks + ")", () -> States.old(20, 0), x -> x.run(ticks), INVALID);
        }
    }

    private static void allTicksInAll() {
        C.sentence(10, "At most 20000 ticks go by in all.");
        CoreMelter x = States.old(20, 0);
        C.counts("20000", x, 18, 20000, 1, 20000);
        x.addSegment(0, 9, 60, 0);
        C.due("not for a new core", x.run(1), -3);
        C.due("undo() of the last segment", x.undo(), 4);
        C.due("undo() of the last run", x.undo(), 3);
        C.due("1000 again", x.run(1000), 0);
        x.renew();
        C.due("from 0 on behind renew", x.run(1000), 0);
        C.due("ticks", x.count(18), 1000);
    }

    private static void runReturnsTheDepth() {
        C.sentence(10, "Returns the depth that is told then");
        CoreMelter x = ice(3, 60, 0);
        x.set(0, 30);
        x.set(3, 14);
        C.due("56 of 60 drawn", x.run(1), 0);
        C.counts("the front is beyond it", x, 10, 1);
        C.due("112 of 120 drawn", x.run(1), 1);
        C.due("168 of 180 drawn", x.run(1), 2);
        C.due("all drawn", x.run(1), 3);
        C.due("and nothing more", x.run(1000), 3);
    }

    // ---- promise 10: melting is stopped

    private static void stopping() {
        stoppedAtTheTop();
        stoppedByStuckLines();
        stoppedForTheStock();
        theFirstReason();
        theReasonAtItsBegin();
        theStoreWhenStopped();
    }

    private static void stoppedAtTheTop() {
        C.sentence(10, "1 if the front is at the top of the core");
        CoreMelter x = ice(2, 60, 0);
        x.set(0, 30);
        x.run(1);
        C.counts("below the top", x, 19, 0, 0);
        x.run(1);
        C.counts("at the top behind this tick", x, 10, 2);
        C.counts("it was not stopped", x, 19, 0, 0);
        x.run(1);
        C.counts("at the top", x, 19, 1, 1);
        x.addSegment(0, 1, 60, 0);
        x.run(1);
        C.counts("below the new top", x, 19, 0, 1);
        C.counts("it melts", x, 10, 3);
        CoreMelter y = new CoreMelter();
        y.run(1);
        C.counts("without a core", y, 19, 1, 1);
    }

    private static void stoppedByStuckLines() {
        C.sentence(10, "2 if all lines are stuck");
        CoreMelter x = States.dusty(100);
        C.due("three stuck lines", x.count(21), 3);
        x.run(1);
        C.counts("three do not stop", x, 19, 0, 0, 4);
        C.due("front", x.count(10), 6);
        x.run(1);
        C.counts("four do", x, 19, 2, 1, 4);
        C.due("front", x.count(10), 6);
        x.clean(2);
        x.run(1);
        C.counts("three again", x, 19, 0, 1);
        C.due("front", x.count(10), 10);
    }

    /** A stock of 100 behind the first tick, with this limit from then on. */
    private static CoreMelter stockOf100(int limit) {
        CoreMelter x = ice(100, 60, 0);
        Checks.settings(x, 200, 10, 100, 5);
        x.run(1);
        x.set(2, limit);
        return x;
    }

    private static void stoppedForTheStock() {
        C.sentence(10, "3 if the stock is at least its limit");
        CoreMelter x = stockOf100(100);
        C.counts("front, store, stock", x, 10, 2, 188, 100);
        x.run(1);
        C.counts("a stock of its limit", x, 19, 3, 1);
        C.counts("front, store, stock", x, 10, 2, 188, 80);
        x = stockOf100(101);
        x.run(1);
        C.counts("a stock of one less", x, 19, 0, 0);
        C.counts("front, store, stock", x, 10, 3, 382, 140);
        x.run(1);
        C.counts("a stock above it", x, 19, 3, 1);
        C.counts("front, store, stock", x, 10, 3, 382, 120);
    }

    /** At the top with all lines stuck and 420 in the stock. */
    private static CoreMelter allReasons(int limit) {
        CoreMelter x = new CoreMelter();
        x.addSegment(2, 9, 60, 100);
        Checks.settings(x, 200, 10, 500, 30, 50);
        x.run(1);
        C.counts("at the top", x, 10, 9, 0, 420, 0, 700);
        C.counts("not stopped; all stuck", x, 19, 0, 0, 4);
        x.set(2, limit);
        return x;
    }

    private static void reasonOf(String what, CoreMelter x, int reason) {
        x.run(1);
        C.due(what, x.count(19), reason);
    }

    private static void theFirstReason() {
        C.sentence(10, "the first of these that holds at its begin");
        reasonOf("1, 2 and 3", allReasons(420), 1);
        reasonOf("1 and 2", allReasons(421), 1);
        CoreMelter x = allReasons(420);
        x.clean(0);
        reasonOf("1 and 3", x, 1);
        x = allReasons(420);
        x.addSegment(0, 10, 60, 0);
        reasonOf("2 and 3", x, 2);
        x = allReasons(421);
        x.addSegment(0, 10, 60, 0);
        reasonOf("2", x, 2);
        x = allReasons(420);
        x.addSegment(0, 10, 60, 0);
        x.clean(0);
        reasonOf("3", x, 3);
        x = allReasons(421);
        x.addSegment(0, 10, 60, 0);
        x.clean(0);
        reasonOf("none", x, 0);
    }

    private static void theReasonAtItsBegin() {
        C.sentence(10, "the first of these that holds at its begin");
        CoreMelter x = allReasons(400);
        x.addSegment(0, 10, 60, 0);
        x.clean(0);
        x.run(1);
        C.counts("all lines are stuck behind the tick, but not ahead of it", x, 19, 3, 1, 4);
        C.counts("the stock is below its limit behind the tick", x, 12, 390, 0, 650);
        reasonOf("all lines are stuck ahead of it", x, 2);
        x.clean(1);
        reasonOf("nothing holds at the begin", x, 0);
    }

    private static void theStoreWhenStopped() {
        C.sentence(10, "(the store stays as it is then)");
        CoreMelter x = ice(3, 60, 0);
        x.run(1);
        x.run(1);
        C.counts("reason 1", x, 19, 1);
        C.due("the store", x.count(11), 0);
        x = States.dusty(100);
        x.run(1);
        C.due("the store", x.count(11), 20);
        x.run(3);
        C.counts("reason 2", x, 19, 2, 3);
        C.due("the store", x.count(11), 20);
        x = stockOf100(50 + 50);
        x.run(1);
        C.counts("reason 3", x, 19, 3);
        C.due("the store", x.count(11), 188);
    }

    // ---- promise 10: melting goes on

    private static void melting() {
        powerAtItsEnds();
        meltsBelowTheLimit();
        meltsToTheTop();
        leapsOverACrack();
        aCrackHasNothing();
        leapsBelowTheLimitAlone();
        enoughHeat();
        heatIsRoundedDown();
        unitByUnit();
        storeAtTheTop();
        waterGasAndDirtOfAUnit();
    }

    private static void powerAtItsEnds() {
        C.sentence(10, "Otherwise the power comes to the store.");
        CoreMelter x = ice(10, 80, 0);
        x.set(0, 0);
        x.run(9);
        C.counts("nothing comes", x, 10, 0, 0);
        C.counts("but it is not stopped", x, 19, 0, 0);
        x.set(0, 1);
        x.run(9);
        C.counts("one a tick", x, 10, 0, 9);
        x.set(0, 200);
        x.run(1);
        C.counts("200 at once, 40 a unit", x, 10, 5, 9);
    }

    private static CoreMelter limited(int limit) {
        CoreMelter x = ice(100, 60, 0);
        Checks.settings(x, 200, 10, limit, 1);
        x.run(1);
        return x;
    }

    private static void meltsBelowTheLimit() {
        C.sentence(10, "as long as the front is below the top and the stock below its limit");
        C.counts("119: 120 are above it", limited(119), 10, 2, 188, 116);
        C.counts("120: 120 are not below it", limited(120), 10, 2, 188, 116);
        C.counts("121: 120 are below it", limited(121), 10, 3, 182, 176);
        C.counts("the least limit", limited(100), 10, 2, 188, 116);
        C.counts("the greatest limit", limited(20000), 10, 33, 2, 1976);
    }

    private static void meltsToTheTop() {
        C.sentence(10, "as long as the front is below the top and the stock below its limit");
        CoreMelter x = ice(3, 60, 0);
        Checks.settings(x, 200, 10);
        C.due("run(1)", x.run(1), 3);
        C.counts("at the top, with heat for more", x, 9, 3, 3, 0);
        C.due("what has melted", x.account(0), 180);
        C.due("run(5)", x.run(5), 3);
        C.due("what has melted", x.account(0), 180);
        CoreMelter y = new CoreMelter();
        C.due("without a core", y.run(9), 0);
        C.counts("nothing melts", y, 10, 0, 0, 0);
    }

    private static void leapsOverACrack() {
        C.sentence(10, "if the front is in a crack (also at its lower end), it comes to the end of it");
        CoreMelter x = new CoreMelter();
        x.set(0, 0);
        x.addSegment(1, 1, 0, 0);
        C.due("the shortest, at the bottom, without heat", x.run(1), 1);
        x.addSegment(1, 300, 0, 0);
        x.addSegment(1, 7, 0, 0);
        C.due("two, one behind the other", x.run(1), 308);
        x.addSegment(0, 1, 60, 0);
        x.addSegment(1, 2, 0, 0);
        x.addSegment(0, 1, 60, 0);
        x.addSegment(1, 3, 0, 0);
        x.run(1);
        C.counts("ice is no crack", x, 10, 308, 0);
        x.set(0, 39);
        x.run(1);
        C.counts("a crack takes no heat", x, 10, 311, 9);
        x.run(1);
        C.counts("a crack at the top", x, 10, 315, 0, 0);
        C.due("not stopped", x.count(20), 0);
    }

    private static void aCrackHasNothing() {
        C.sentence(10, "1 crack without any ice: the front leaps over it");
        for (int length : new int[] {1, 300}) {
            CoreMelter x = new CoreMelter();
            x.addSegment(1, length, 0, 0);
            C.due("leapt over", x.run(1), length);
            C.accounts("nothing has melted", x, 0, 0, 0, 0, 0, 0, 0);
            C.counts("nothing is in the stock", x, 10, length, 0, 0, 0, 0, length, 0, 0, 1, 0, 0);
        }
    }

    private static CoreMelter crackAtLimit(int limit) {
        CoreMelter x = ice(2, 60, 0);
        x.addSegment(1, 5, 0, 0);
        x.addSegment(0, 9, 60, 0);
        Checks.settings(x, 60, 50, limit, 1);
        x.run(1);
        return x;
    }

    private static void leapsBelowTheLimitAlone() {
        C.sentence(10, "as long as the front is below the top and the stock below its limit");
        CoreMelter x = crackAtLimit(120);
        C.counts("a stock of its limit: at the lower end", x, 10, 2, 0, 116);
        C.counts("a stock above it: at the lower end", crackAtLimit(119), 10, 2, 0, 116);
        C.counts("a stock of one less: at the upper end", crackAtLimit(121), 10, 7, 0, 116);
        x.set(2, 116);
        x.run(1);
        C.counts("stopped: still at the lower end", x, 10, 2, 0, 112);
        x.set(0, 0);
        x.set(2, 113);
        x.run(1);
        C.counts("below the limit: it leaps", x, 10, 7, 0, 108);
    }

    private static CoreMelter heated(int kind, int density, int heat, int power) {
        CoreMelter x = new CoreMelter();
        x.addSegment(kind, 100, density, 1);
        Checks.settings(x, power, heat);
        x.run(1);
        return x;
    }

    private static void enoughHeat() {
        C.sentence(10, "if the store is at least heat * density / 100");
        for (int kind = 0; kind <= 2; kind += 2) {
            C.counts("40 of 40", heated(kind, 80, 50, 40), 10, 1, 0);
            C.counts("39 of 40", heated(kind, 80, 50, 39), 10, 0, 39);
            C.counts("79 of 80", heated(kind, 80, 50, 79), 10, 1, 39);
            C.counts("80 of 80", heated(kind, 80, 50, 80), 10, 2, 0);
            C.counts("the most: 184 of 184", heated(kind, 92, 200, 184), 10, 1, 0);
            C.counts("the most: 183 of 184", heated(kind, 92, 200, 183), 10, 0, 183);
            C.counts("the least: 6 of 6", heated(kind, 60, 10, 6), 10, 1, 0);
            C.counts("the least: 5 of 6", heated(kind, 60, 10, 5), 10, 0, 5);
        }
        CoreMelter x = heated(0, 80, 50, 39);
        x.set(0, 1);
        x.run(1);
        C.counts("a tick later there is enough", x, 10, 1, 0);
    }

    private static void heatIsRoundedDown() {
        C.sentence(10, "divisions are rounded down");
        C.counts("6 of 6.71", heated(0, 61, 11, 6), 10, 1, 0);
        C.counts("5 of 6.71", heated(0, 61, 11, 5), 10, 0, 5);
        C.counts("13 of 13.42", heated(0, 61, 11, 13), 10, 2, 1);
        C.counts("9 of 9.2", heated(2, 92, 10, 9), 10, 1, 0);
    }

    private static void unitByUnit() {
        C.sentence(10, "the store decreases by this, the front rises by 1");
        CoreMelter x = ice(2, 60, 0);
        x.addSegment(2, 2, 80, 10);
        x.addSegment(0, 9, 92, 0);
        Checks.settings(x, 200, 50);
        x.run(1);
        C.counts("30, 30, 40, 40 and 46", x, 10, 5, 14);
        C.accounts("by the water of each", x, 372);
    }

    private static void storeAtTheTop() {
        C.sentence(10, "If the front is at the top then, the store becomes 0.");
        int[] lengths = {1, 2, 3};
        for (int length : lengths) {
            CoreMelter x = ice(length, 60, 0);
            x.run(1);
            C.counts("at the top", x, 10, length, 0);
        }
        CoreMelter x = ice(4, 60, 0);
        x.run(1);
        C.counts("one below the top", x, 10, 3, 10);
        x = ice(3, 60, 0);
        x.addSegment(1, 4, 0, 0);
        x.run(1);
        C.counts("a crack at the top", x, 10, 7, 0);
        x = ice(3, 60, 0);
        x.addSegment(1, 4, 0, 0);
        x.set(2, 180);
        x.run(1);
        C.counts("below a crack at the top", x, 10, 3, 10);
    }

    private static void waterGasAndDirtOfAUnit() {
        C.sentence(10, "Each unit of length of ice or dust has as much water as its density, gas of density * bubbles"
            + " / 100 (none for dust), and its dirt (none for ice).");
        int[][] units = {
            {0, 60, 0, 0, 0}, {0, 60, 1, 0, 0}, {0, 60, 2, 1, 0}, {0, 61, 50, 30, 0}, {0, 60, 33, 19, 0},
            {0, 92, 50, 46, 0}, {2, 60, 1, 0, 1}, {2, 92, 100, 0, 100}, {2, 80, 50, 0, 50}};
        for (int[] u : units) {
            CoreMelter x = new CoreMelter();
            x.addSegment(u[0], 1, u[1], u[2]);
            x.addSegment(1, 1, 0, 0);
            x.run(1);
            String unit = "a unit of kind " + u[0] + " with " + u[1] + " and " + u[2];
            C.due(unit + ": water", x.account(0), u[1]);
            C.due(unit + ": gas", x.account(3), u[3]);
            C.due(unit + ": dirt", x.account(5), u[4]);
        }
    }

    // ---- promise 10: lines draw

    private static void drawing() {
        flowOrWhatIsLeft();
        drawsWhenStopped();
        sharesOfGas();
        sharesOfDirt();
        sharesAreRoundedDown();
        noWaterIsNoDrawing();
        noWaterSticksNoLine();
    }

    private static void drawn(int flow, int first, int second, int third, int fourth, int left) {
        CoreMelter x = ice(100, 60, 0);
        x.set(0, 30);
        x.set(3, flow);
        x.run(1);
        int[] want = {first, second, third, fourth};
        for (int line = 0; line < 4; line++) {
            C.line("60 by a flow of " + flow, x, line, 0, 0, 0, want[line], 0);
        }
        C.due("what is left by a flow of " + flow, x.count(12), left);
    }

    private static void flowOrWhatIsLeft() {
        C.sentence(10, "each open line in ascending order draws as much water as the flow, or what is in the stock, if this"
            + " is less");
        drawn(60, 60, 0, 0, 0, 0);
        drawn(61, 60, 0, 0, 0, 0);
        drawn(59, 59, 1, 0, 0, 0);
        drawn(500, 60, 0, 0, 0, 0);
        drawn(20, 20, 20, 20, 0, 0);
        drawn(16, 16, 16, 16, 12, 0);
        drawn(15, 15, 15, 15, 15, 0);
        drawn(14, 14, 14, 14, 14, 4);
        drawn(1, 1, 1, 1, 1, 56);
    }

    private static void drawsWhenStopped() {
        C.sentence(10, "Behind melting (also if it was stopped)");
        CoreMelter x = ice(1, 60, 0);
        x.set(3, 10);
        x.run(1);
        C.counts("ten for each line", x, 12, 20);
        x.run(1);
        C.counts("stopped", x, 19, 1, 1);
        C.counts("the rest is drawn", x, 12, 0);
        C.line("ten more", x, 1, 0, 0, 0, 20, 0);
        C.line("nothing more", x, 2, 0, 0, 0, 10, 0);
    }

    private static void sharesOfGas() {
        C.sentence(10, "all as they are ahead of its drawing");
        CoreMelter x = ice(1, 60, 50);
        x.set(3, 15);
        x.run(1);
        C.accounts("7 of 30, 7 of 23, 8 of 16, 8 of 8", x, 60, 0, 60, 30, 30);
        C.counts("no water, no gas", x, 12, 0, 0);
    }

    private static void sharesOfDirt() {
        C.sentence(10, "all as they are ahead of its drawing");
        CoreMelter x = new CoreMelter();
        x.addSegment(2, 1, 60, 30);
        x.set(3, 15);
        x.run(1);
        C.line("7 of 30", x, 0, 0, 7, 0, 15);
        C.line("7 of 23", x, 1, 0, 7, 0, 15);
        C.line("8 of 16", x, 2, 0, 8, 0, 15);
        C.line("8 of 8", x, 3, 0, 8, 0, 15);
        C.counts("no water, no dirt", x, 12, 0, 0, 0);
    }

    private static void sharesAreRoundedDown() {
        C.sentence(10, "gas * drawn / stock of the gas and dirt * drawn / stock of the dirt go with it");
        CoreMelter x = ice(1, 60, 50);
        x.set(3, 1);
        x.run(1);
        C.accounts("half a gas is none", x, 60, 4, 0, 30, 0);
        C.counts("all gas is left", x, 12, 56, 30);
        x = new CoreMelter();
        x.addSegment(2, 1, 60, 59);
        x.set(3, 1);
        x.run(1);
        C.line("59 of 60 dirt is none", x, 0, 0, 0, 0, 1);
        C.line("59 of 59 dirt is one", x, 1, 0, 1, 0, 1);
        C.counts("one for each of the others", x, 12, 56, 0, 56);
    }

    private static void noWaterIsNoDrawing() {
        C.sentence(10, "If it draws any water");
        CoreMelter x = ice(1, 60, 50);
        x.run(1);
        C.line("bubbles", x, 0, 0, 0, 1, 60, 60);
        C.line("no water: no gap", x, 1, 0, 0, 0, 0, 0);
        x.run(9);
        C.line("no water: the gap does not grow", x, 0, 0, 0, 1, 60, 60);
        CoreMelter y = new CoreMelter();
        y.run(9);
        for (int line = 0; line < 4; line++) {
            C.line("without a core", y, line, 0, 0, 0, 0, 0);
        }
    }

    private static void noWaterSticksNoLine() {
        C.sentence(10, "If it draws any water");
        CoreMelter x = States.dusty(101);
        x.set(4, 50);
        x.set(0, 0);
        C.counts("nothing is left", x, 12, 0);
        x.run(1);
        C.due("no line is stuck", x.count(21), 0);
        x.set(0, 20);
        x.run(1);
        C.line("one draws, and is", x, 0, 1, 200, 0, 120, 0);
        C.line("another draws nothing", x, 1, 0, 100, 0, 60, 0);
        C.due("one stuck line", x.count(21), 1);
    }

    // ---- promise 10: water is wasted

    private static void wasting() {
        bubblesAtTheLimit();
        bubblesAreRoundedDown();
        aGapWastes();
        noGapCollects();
        gapsAtTheLag();
        aLagThatIsLess();
        bubblesInAGap();
    }

    private static CoreMelter bubbly(int density, int bubbles, int limit) {
        CoreMelter x = ice(1, density, bubbles);
        x.addSegment(1, 1, 0, 0);
        x.set(3, 500);
        x.set(5, limit);
        x.run(1);
        return x;
    }

    private static void bubblesAtTheLimit() {
        C.sentence(10, "is greater than the bubble limit, its gap becomes 1, and the water is wasted");
        C.line("50 of 50", bubbly(80, 50, 50), 0, 0, 0, 0, 80, 0);
        C.line("50 of 49", bubbly(80, 50, 49), 0, 0, 0, 1, 80, 80);
        C.accounts("collected", bubbly(80, 50, 50), 80, 80, 0, 40, 40);
        C.accounts("wasted", bubbly(80, 50, 49), 80, 0, 80, 40, 40);
        C.line("no gas, the least limit", bubbly(60, 0, 5), 0, 0, 0, 0, 60, 0);
        C.line("5 of the least limit", bubbly(80, 5, 5), 0, 0, 0, 0, 80, 0);
        C.line("more than the least limit", bubbly(86, 7, 5), 0, 0, 0, 1, 86, 86);
        C.line("the greatest limit", bubbly(92, 50, 200), 0, 0, 0, 0, 92, 0);
    }

    private static void bubblesAreRoundedDown() {
        C.sentence(10, "divisions are rounded down");
        C.line("30 of 61 are 49", bubbly(61, 50, 49), 0, 0, 0, 0, 61, 0);
        C.line("and more than 48", bubbly(61, 50, 48), 0, 0, 0, 1, 61, 61);
        C.line("6 of 86 are 6", bubbly(86, 7, 6), 0, 0, 0, 0, 86, 0);
    }

    /** A unit with bubbles below clean ice; one line draws one unit in each tick. */
    private static CoreMelter gap(int lag) {
        CoreMelter x = ice(1, 60, 50);
        x.addSegment(0, 300, 60, 0);
        Checks.settings(x, 30, 50, 2000, 60, 500, 40, 500, lag);
        x.run(1);
        return x;
    }

    private static void aGapWastes() {
        C.sentence(10, "Otherwise, if its gap is above 0, the water is wasted, too, and the gap grows by 1");
        CoreMelter x = gap(5);
        C.line("bubbles", x, 0, 0, 0, 1, 60, 60);
        x.run(1);
        C.line("a gap", x, 0, 0, 0, 2, 120, 120);
        C.accounts("wasted", x, 120, 0, 120);
        CoreMelter y = States.steady(500);
        y.run(1);
        C.line("no gap", y, 0, 0, 0, 0, 60, 0);
        C.accounts("collected", y, 60, 60, 0);
    }

    private static void noGapCollects() {
        C.sentence(10, "Otherwise the water is collected.");
        CoreMelter x = new CoreMelter();
        x.addSegment(0, 1, 60, 0);
        x.set(3, 1);
        x.run(1);
        C.accounts("one each", x, 60, 4, 0);
        C.counts("in the present vial", x, 17, 4);
        x.run(14);
        C.accounts("all", x, 60, 60, 0);
        x.run(1);
        C.accounts("nothing more", x, 60, 60, 0);
        C.counts("in the present vial", x, 17, 60);
    }

    private static void gapsAtTheLag() {
        C.sentence(10, "if it has grown to more than the lag, it becomes 0");
        for (int lag : new int[] {0, 1, 2, 3, 49, 50}) {
            CoreMelter x = gap(lag);
            int lost = Math.max(1, lag);
            for (int more = 1; more < lost; more++) {
                x.run(1);
                C.line("not more than a lag of " + lag, x, 0, 0, 0, 1 + more, 60 + 60 * more, 60 + 60 * more);
            }
            x.run(1);
            C.line("more than a lag of " + lag, x, 0, 0, 0, 0, 60 + 60 * lost, 60 + 60 * lost);
            x.run(1);
            C.line("behind a lag of " + lag, x, 0, 0, 0, 0, 120 + 60 * lost, 60 + 60 * lost);
        }
    }

    private static void aLagThatIsLess() {
        C.sentence(10, "if it has grown to more than the lag, it becomes 0");
        CoreMelter x = gap(9);
        x.run(2);
        C.due("the gap", x.line(0, 2), 3);
        x.set(7, 4);
        x.run(1);
        C.due("4 are not more than 4", x.line(0, 2), 4);
        x.set(7, 0);
        C.due("a setting alone does nothing", x.line(0, 2), 4);
        x.run(1);
        C.line("5 are more than 0", x, 0, 0, 0, 0, 300, 300);
    }

    private static void bubblesInAGap() {
        C.sentence(10, "is greater than the bubble limit, its gap becomes 1, and the water is wasted");
        CoreMelter x = ice(1, 60, 50);
        x.addSegment(0, 2, 60, 0);
        x.addSegment(0, 1, 60, 50);
        x.addSegment(0, 9, 60, 0);
        Checks.settings(x, 30, 50, 2000, 60, 500, 40, 500, 5);
        int[] want = {1, 2, 3, 1, 2, 3, 4, 5, 0, 0};
        for (int i = 0; i < want.length; i++) {
            x.run(1);
            C.due("gap behind tick " + (i + 1), x.line(0, 2), want[i]);
        }
        C.line("one unit is collected", x, 0, 0, 0, 0, 600, 540);
    }

    // ---- promise 10: lines are stuck

    private static void sticking() {
        dirtAtTheLimit();
        dirtAtTheLeastLimit();
        dirtAtTheGreatestLimit();
        stuckFromNowOn();
    }

    private static void dirtAtTheLimit() {
        C.sentence(10, "if this is at least the dirt limit then, the line is stuck from now on");
        C.line("100 of 100", States.dusty(100), 0, 1, 100, 0, 60, 0);
        C.line("100 of 101", States.dusty(101), 0, 0, 100, 0, 60, 0);
        C.line("100 of 99", States.dusty(99), 0, 1, 100, 0, 60, 0);
        CoreMelter x = States.dusty(200);
        x.run(1);
        C.line("100 and 100 of 200", x, 0, 1, 200, 0, 120, 0);
        x = States.dusty(201);
        x.run(1);
        C.line("100 and 100 of 201", x, 0, 0, 200, 0, 120, 0);
        x.run(1);
        C.line("300 of 201", x, 0, 1, 300, 0, 180, 0);
    }

    private static CoreMelter dust(int dirt, int limit) {
        CoreMelter x = new CoreMelter();
        x.addSegment(2, 300, 60, dirt);
        x.set(0, 30);
        x.set(4, limit);
        x.run(1);
        return x;
    }

    private static void dirtAtTheLeastLimit() {
        C.sentence(10, "4 dirt limit 50 to 5000, 500");
        C.line("50 of 50", dust(50, 50), 0, 1, 50, 0, 60, 0);
        C.line("49 of 50", dust(49, 50), 0, 0, 49, 0, 60, 0);
    }

    private static void dirtAtTheGreatestLimit() {
        C.sentence(10, "4 dirt limit 50 to 5000, 500");
        CoreMelter x = dust(100, 5000);
        x.run(48);
        C.line("4900 of 5000", x, 0, 0, 4900, 0, 2940, 0);
        x.run(1);
        C.line("5000 of 5000", x, 0, 1, 5000, 0, 3000, 0);
        C.due("one stuck line", x.count(21), 1);
    }

    private static void stuckFromNowOn() {
        C.sentence(10, "if this is at least the dirt limit then, the line is stuck from now on");
        CoreMelter x = dust(50, 50);
        x.set(4, 5000);
        x.run(1);
        C.line("a higher limit does not open it", x, 0, 1, 50, 0, 60, 0);
        C.line("the next one draws", x, 1, 0, 50, 0, 60, 0);
        x.set(4, 50);
        C.due("a lower limit alone sticks none", x.count(21), 1);
        x.run(1);
        C.line("but the next drawing does", x, 1, 1, 100, 0, 120, 0);
    }

    // ---- promise 10: the depth that is told

    private static void telling() {
        toldByTheWaterDrawn();
        toldByWaterThatWasWasted();
        toldAtMostTheFront();
        toldEndOfACrack();
        toldNeverGoesBack();
    }

    private static int told(CoreMelter x, int flow) {
        Checks.settings(x, 200, 10, 20000, flow);
        return x.run(1);
    }

    private static void toldByTheWaterDrawn() {
        C.sentence(10, "for which all ice and dust below it have at most as much water as was drawn");
        C.due("60 of 60", told(ice(1, 60, 0), 15), 1);
        C.due("56 of 60", told(ice(1, 60, 0), 14), 0);
        C.due("60 of 61", told(ice(1, 61, 0), 15), 0);
        C.due("120 of 60 and 60", told(ice(9, 60, 0), 30), 2);
        C.due("120 of 61 and 61", told(ice(9, 61, 0), 30), 1);
        C.due("124 of 61 and 61", told(ice(9, 61, 0), 31), 2);
        CoreMelter x = new CoreMelter();
        x.addSegment(2, 9, 60, 1);
        C.due("dust", told(x, 30), 2);
        x = ice(1, 61, 0);
        x.set(3, 15);
        C.due("60 of 61", x.run(1), 0);
        C.due("a tick later 61 of 61", x.run(1), 1);
    }

    private static void toldByWaterThatWasWasted() {
        C.sentence(10, "The drawn water is what was collected and wasted in all.");
        CoreMelter x = ice(1, 60, 50);
        C.due("all is wasted", told(x, 15), 1);
        C.accounts("all is wasted", x, 60, 0, 60);
        x = gap(1);
        x.run(2);
        C.accounts("some is wasted", x, 180, 60, 120);
        C.due("told", x.count(15), 3);
    }

    private static void toldAtMostTheFront() {
        C.sentence(10, "The depth that is told is the greatest depth, at most the front");
        CoreMelter x = ice(2, 60, 0);
        x.addSegment(1, 5, 0, 0);
        Checks.settings(x, 200, 10, 120, 30);
        C.due("all is drawn, and the front in front of a crack", x.run(1), 2);
        C.due("behind it", x.run(1), 7);
        x.addSegment(1, 5, 0, 0);
        C.due("a crack on top", x.count(15), 7);
        C.due("until the front has leapt", x.run(1), 12);
        C.due("without a core", new CoreMelter().run(5), 0);
    }

    private static CoreMelter aroundACrack() {
        CoreMelter x = ice(1, 60, 0);
        x.addSegment(1, 5, 0, 0);
        x.addSegment(0, 1, 61, 0);
        return x;
    }

    private static void toldEndOfACrack() {
        C.sentence(10, "(so the end of a crack rather than its begin, if the front has come there)");
        C.due("56 drawn", told(aroundACrack(), 14), 0);
        C.due("60 drawn", told(aroundACrack(), 15), 6);
        C.due("120 drawn", told(aroundACrack(), 30), 6);
        C.due("121 drawn", told(aroundACrack(), 31), 7);
        C.due("cracks alone, nothing drawn", States.cracks(20).run(1), 20);
    }

    private static void toldNeverGoesBack() {
        C.sentence(10, "the depth that is told never goes back");
        CoreMelter x = new CoreMelter();
        int before = 0;
        for (int i = 0; i < 60; i++) {
            if (i % 3 == 0) {
                x.addSegment(i / 3 % 3, 2 + i % 5, i / 3 % 3 == 1 ? 0 : 60 + i % 30, i / 3 % 3 == 1 ? 0 : i % 50 + 1);
            }
            x.set(3, 1 + i * 37 % 90);
            x.set(2, 100 + i * 53 % 400);
            int told = x.run(1);
            C.due("not less than before, tick " + i, told >= before ? 1 : 0, 1);
            C.due("at most the front, tick " + i, told <= x.count(10) ? 1 : 0, 1);
            before = told;
        }
        C.due("it has gone far", before > 60 ? 1 : 0, 1);
    }

    // ---- promise 11

    private static void count() {
        numbersToCount();
        countsWhenEmpty();
        countsWhenFull();
        countsOfAWholeCore();
        reasonOfTheLatestTick();
        ticksInWhichItWasStopped();
        stuckLines();
    }

    private static void numbersToCount() {
        C.sentence(11, "INVALID_ARGUMENT if what is out of range");
        CoreMelter x = States.busy();
        C.counts("all of them", x, 0, 190, 50, 100, 45, 134, 40, 200, 9, 4, 115, 23, 614, 6, 3, 1, 22, 3, 180, 8, 3, 1,
            3, 5, 17);
        for (int what : new int[] {-1, 24, 25, MIN, MAX}) {
            C.changesNothing("count(" + what + ")", States::busy, y -> y.count(what), INVALID);
        }
    }

    private static void countsWhenEmpty() {
        C.sentence(11, "Returns the number; INVALID_ARGUMENT if what is out of range.");
        C.counts("new", new CoreMelter(), 8, 0, 0, 0, 0, 0, 0, 0, 0, 0, 0, 0, 0, 0, 0, 0, 0, INVALID);
    }

    private static void countsWhenFull() {
        C.sentence(11, "8: segments; 9: the length of the core");
        C.counts("a full core", States.full(), 8, 20, 6000);
        C.sentence(11, "16: sealed vials; 17: the water in the present vial; 18: ticks that have gone by");
        CoreMelter x = States.steady(50);
        x.run(300);
        C.counts("40 vials", x, 16, 40, 260 * 60, 300);
        C.due("ticks", States.old(20, 0).count(18), 20000);
        C.sentence(11, "22: states in the history; 23: the length of the text");
        C.counts("full", States.full(), 22, 5, 100);
    }

    private static void countsOfAWholeCore() {
        C.sentence(11, "10: the front; 11: the store; 12: the stock; 13: its gas; 14: its dirt; 15: the depth that is told");
        CoreMelter x = ice(4, 60, 50);
        x.addSegment(2, 3, 60, 10);
        C.counts("nothing has melted", x, 10, 0, 0, 0, 0, 0, 0);
        Checks.settings(x, 160, 50, 2000, 15);
        x.run(1);
        C.counts("five units; 60 of 300 drawn", x, 10, 5, 10, 240, 96, 10, 1);
        x.set(3, 500);
        x.run(1);
        C.counts("all is drawn", x, 10, 7, 0, 0, 0, 0, 7);
    }

    private static void reasonOfTheLatestTick() {
        C.sentence(11, "19: the reason for which melting was stopped in the latest tick, 0 if it was not, or there was none");
        CoreMelter x = new CoreMelter();
        C.due("there was none", x.count(19), 0);
        x.run(1);
        C.due("it was", x.count(19), 1);
        x.addSegment(0, 4, 60, 0);
        C.due("it was in the latest", x.count(19), 1);
        x.run(1);
        C.due("it was not", x.count(19), 0);
        x.run(2);
        C.due("it was in the latest of two", x.count(19), 1);
        x.renew();
        C.due("there was none", x.count(19), 0);
    }

    private static void ticksInWhichItWasStopped() {
        C.sentence(11, "20: ticks in which it was stopped");
        CoreMelter x = ice(2, 60, 0);
        x.set(0, 30);
        x.run(2);
        C.due("none", x.count(20), 0);
        x.run(1);
        C.due("one", x.count(20), 1);
        x.run(1000);
        C.due("and 1000", x.count(20), 1001);
        C.due("all", States.old(20, 0).count(20), 20000);
    }

    private static void stuckLines() {
        C.sentence(11, "21: stuck lines");
        CoreMelter x = dust(50, 50);
        int[] want = {1, 2, 3, 4, 4};
        for (int i = 0; i < want.length; i++) {
            C.due("behind tick " + (i + 1), x.count(21), want[i]);
            x.run(1);
        }
        for (int line = 3; line >= 0; line--) {
            x.clean(line);
            C.due("behind clean(" + line + ")", x.count(21), line);
        }
    }

    // ---- promise 12

    private static void account() {
        accountsInRange();
        accountsWhenEmpty();
        accountsOfTheMostGas();
        accountsOfTheMostDirt();
    }

    private static void accountsInRange() {
        C.sentence(12, "`what`: 0 to 6");
        C.accounts("busy", States.busy(), 1446, 1080, 360, 314, 311, 540, 539);
        for (int what : new int[] {-1, 7, 8, MIN, MAX}) {
            C.changesNothing("account(" + what + ")", States::busy, x -> x.account(what), INVALID);
        }
    }

    private static void balance(String when, CoreMelter x) {
        C.due(when + ": water", x.account(0), x.account(1) + x.account(2) + x.count(12));
        C.due(when + ": gas", x.account(3), x.account(4) + x.count(13));
        C.due(when + ": dirt", x.account(5), x.account(6) + x.count(14));
    }

    private static void accountsWhenEmpty() {
        C.sentence(12, "(What has melted is what was drawn, and what is in the stock.)");
        CoreMelter x = new CoreMelter();
        C.accounts("new", x, 0, 0, 0, 0, 0, 0, 0);
        x.addSegment(0, 2, 61, 50);
        C.accounts("nothing has melted", x, 0, 0, 0, 0, 0, 0, 0);
        x.set(3, 7);
        for (int i = 0; i < 9; i++) {
            x.run(1);
            balance("behind tick " + (i + 1), x);
        }
        C.accounts("all is drawn", x, 122, x.account(1), 122 - x.account(1), 60, 60, 0, 0);
        balance("busy", States.busy());
    }

    private static void accountsOfTheMostGas() {
        C.sentence(12, "(What has melted is what was drawn, and what is in the stock.)");
        CoreMelter x = new CoreMelter();
        for (int i = 0; i < 20; i++) {
            x.addSegment(0, 300, 92, 50);
        }
        Checks.settings(x, 200, 10, 20000, 500, 5000, 5, 5000, 50);
        for (int i = 0; i < 30; i++) {
            x.run(10);
            balance("behind " + 10 * (i + 1), x);
        }
        C.accounts("the most water and gas", x, 552000, 0, 552000, 276000, 276000, 0, 0);
        C.counts("the whole core", x, 9, 6000, 6000, 0, 0, 0, 0, 6000);
        C.due("again()", x.again(), 6000);
    }

    private static void accountsOfTheMostDirt() {
        C.sentence(12, "(What has melted is what was drawn, and what is in the stock.)");
        CoreMelter x = new CoreMelter();
        for (int i = 0; i < 20; i++) {
            x.addSegment(2, 300, 60, 100);
        }
        Checks.settings(x, 200, 10, 20000, 500, 5000, 5, 5000, 50);
        for (int i = 0; i < 60; i++) {
            x.run(10);
            for (int line = 0; line < 4; line++) {
                x.clean(line);
            }
        }
        balance("in the end", x);
        C.accounts("the most dirt", x, 360000, 360000, 0, 0, 0, 600000, 600000);
    }

    // ---- promise 13

    private static void line() {
        linesInRange();
        propertiesInRange();
        fourLines();
        stuckOrNot();
        drawnAndWasted();
        cleaningLeavesWhatWasDrawn();
    }

    private static void linesInRange() {
        C.sentence(13, "`line`: 0 to 3");
        CoreMelter x = States.busy();
        C.line("the first", x, 0, 0, 133, 1, 360, 90);
        C.line("the last", x, 3, 1, 136, 1, 360, 90);
        for (int line : new int[] {-1, 4, 5, MIN, MAX}) {
            for (int what = 0; what <= 4; what++) {
                C.due("line(" + line + ", " + what + ")", x.line(line, what), INVALID);
            }
            C.changesNothing("line(" + line + ", 0)", States::busy, y -> y.line(line, 0), INVALID);
        }
    }

    private static void propertiesInRange() {
        C.sentence(13, "Returns the property; INVALID_ARGUMENT if an argument is out of range.");
        CoreMelter x = States.busy();
        C.due("the first property", x.line(1, 0), 1);
        C.due("the last property", x.line(1, 4), 90);
        for (int what : new int[] {-1, 5, 6, MIN, MAX}) {
            C.due("line(0, " + what + ")", x.line(0, what), INVALID);
            C.due("line(3, " + what + ")", x.line(3, what), INVALID);
            C.due("line(4, " + what + ")", x.line(4, what), INVALID);
        }
    }

    private static void fourLines() {
        C.sentence(13, "There are 4 lines, numbered from 0");
        CoreMelter x = ice(1, 61, 0);
        x.set(3, 15);
        x.run(1);
        for (int line = 0; line < 4; line++) {
            C.line("a quarter of it", x, line, 0, 0, 0, 15, 0);
        }
        C.due("there is no fifth", x.line(4, 3), INVALID);
        C.counts("one is left", x, 12, 1);
    }

    private static void drawnAndWasted() {
        C.sentence(13, "3: the water that it has drawn in all; 4: what of this was wasted");
        CoreMelter x = gap(1);
        C.line("all", x, 0, 0, 0, 1, 60, 60);
        C.line("nothing", x, 1, 0, 0, 0, 0, 0);
        x.run(2);
        C.line("two of three", x, 0, 0, 0, 0, 180, 120);
        x = States.steady(50);
        x.run(300);
        C.line("nothing of all", x, 0, 0, 0, 0, 18000, 0);
    }

    private static void stuckOrNot() {
        C.sentence(13, "0: 1 if it is stuck, otherwise 0; 1: its dirt; 2: its gap");
        CoreMelter x = dust(50, 50);
        C.line("stuck", x, 0, 1, 50, 0);
        C.line("open", x, 1, 0, 0, 0);
        x = gap(5);
        C.line("a gap", x, 0, 0, 0, 1);
        C.line("no gap", x, 1, 0, 0, 0);
    }

    private static void cleaningLeavesWhatWasDrawn() {
        C.sentence(13, "(cleaning does not alter 3 and 4)");
        CoreMelter x = States.busy();
        x.clean(1);
        C.line("cleaned", x, 1, 0, 0, 0, 360, 90);
        C.accounts("nor the accounts", x, 1446, 1080, 360, 314, 311, 540, 539);
    }
}
