/** Promises 9 to 13: cleaning, ticks, counts, accounts and lines. */
public final class PlatePromisesTest {
    private static final Checks C = new Checks("PlatePromisesTest");
    private static final int INVALID = -1;
    private static final int FAR = Integer.MAX_VALUE;

    public static void main(String[] args) {
        clean();
        runArguments();
        runLimit();
        melting();
        meltingRoundsHeatDown();
        cracks();
        stockLimit();
        crackWaitsForTheStock();
        storeAtTheTop();
        reasons();
        drawing();
        bubbles();
        bubblesRoundedDown();
        lag();
        dirt();
        sticking();
        toldDepth();
        count();
        account();
        line();
        C.close();
    }

    /** Three units of dust melt in a tick: 180 water and 300 dirt, for three lines 60 and 100 each. */
    private static CoreMelter dusty(int dirtLimit) {
        CoreMelter x = new CoreMelter();
        x.addSegment(2, 100, 60, 100);
        x.set(4, dirtLimit);
        x.run(1);
        return x;
    }

    private static void clean() {
        C.promise(9);
        CoreMelter x = dusty(100);
        C.due("clean(-1)", x.clean(-1), INVALID);
        C.due("clean(4)", x.clean(4), INVALID);
        C.due("clean(FAR)", x.clean(FAR), INVALID);
        C.due("clean(3), an open line", x.clean(3), -2);
        C.due("states", x.count(22), 3);
        C.due("clean(1)", x.clean(1), 100);
        C.line("cleaned", x, 1, 0, 0, 0, 60, 0);
        C.line("not cleaned", x, 0, 1, 100, 0, 60, 0);
        C.due("stuck lines", x.count(21), 2);
        C.due("states", x.count(22), 4);
        C.due("clean(1), now open", x.clean(1), -2);
        C.accounts("cleaning does not alter them", x, 180, 180, 0, 0, 0, 300, 300);
        x = new CoreMelter();
        x.addSegment(0, 1, 80, 50);
        x.addSegment(2, 1, 80, 100);
        Checks.settings(x, 80, 50, 2000, 500, 100);
        x.run(1);
        C.line("bubbles and dirt at once", x, 0, 1, 100, 0, 160, 0);
        x.undo();
        x.set(5, 24);
        x.run(1);
        C.line("bubbles and dirt at once", x, 0, 1, 100, 1, 160, 160);
        C.due("clean(0)", x.clean(0), 100);
        C.line("gap and dirt are 0", x, 0, 0, 0, 0, 160, 160);
    }

    private static void runArguments() {
        C.promise(10);
        CoreMelter x = new CoreMelter();
        C.due("run(0)", x.run(0), INVALID);
        C.due("run(-1)", x.run(-1), INVALID);
        C.due("run(1001)", x.run(1001), INVALID);
        C.due("run(FAR)", x.run(FAR), INVALID);
        C.due("run(MIN)", x.run(Integer.MIN_VALUE), INVALID);
        C.counts("nothing ran", x, 18, 0, 0, 0, 0, 0);
        C.due("run(1)", x.run(1), 0);
        C.due("run(1000)", x.run(1000), 0);
        C.due("ticks", x.count(18), 1001);
    }

    private static void runLimit() {
        C.promise(10);
        CoreMelter x = new CoreMelter();
        for (int i = 0; i < 19; i++) {
            C.due("run(1000)", x.run(1000), 0);
        }
        C.due("run(999)", x.run(999), 0);
        C.due("ticks", x.count(18), 19999);
        C.due("run(2)", x.run(2), -3);
        C.due("run(1001)", x.run(1001), INVALID);
        C.due("ticks stay", x.count(18), 19999);
        C.due("run(1)", x.run(1), 0);
        C.due("ticks", x.count(18), 20000);
        C.due("run(1)", x.run(1), -3);
        C.due("run(0)", x.run(0), INVALID);
        x.renew();
        C.due("run(1000) behind renew", x.run(1000), 0);
        C.due("ticks", x.count(18), 1000);
    }

    private static void melting() {
        C.promise(10);
        CoreMelter x = new CoreMelter();
        x.addSegment(0, 10, 80, 10);
        C.due("run(1)", x.run(1), 2);
        C.counts("two units at 40 each", x, 10, 2, 20, 0, 0, 0, 2);
        C.due("run(1)", x.run(1), 5);
        C.counts("three units at 40 each", x, 10, 5, 0);
        x.set(0, 0);
        C.due("without power", x.run(3), 5);
        C.counts("not stopped, though nothing melts", x, 19, 0, 0);
        x.set(0, 39);
        C.due("not enough", x.run(1), 5);
        C.due("the store", x.count(11), 39);
        x.set(0, 1);
        C.due("just enough", x.run(1), 6);
        C.due("the store", x.count(11), 0);
        x.set(1, 100);
        x.set(0, 200);
        C.due("more heat for a unit", x.run(1), 8);
        C.counts("two units at 80 each", x, 10, 8, 40);
    }

    private static void meltingRoundsHeatDown() {
        C.promise(10);
        CoreMelter x = new CoreMelter();
        x.addSegment(0, 10, 61, 0);
        Checks.settings(x, 6, 11);
        C.due("6 of 6.71 are enough", x.run(1), 1);
        C.counts("by one unit", x, 10, 1, 0);
        x = new CoreMelter();
        x.addSegment(0, 10, 92, 0);
        Checks.settings(x, 184, 200);
        C.due("184 are enough for 184", x.run(1), 1);
        C.counts("by one unit", x, 10, 1, 0);
        x.set(0, 183);
        x.run(1);
        C.counts("183 are not", x, 10, 1, 183);
    }

    private static void cracks() {
        C.promise(10);
        CoreMelter x = new CoreMelter();
        x.addSegment(1, 4, 0, 0);
        x.addSegment(1, 300, 0, 0);
        x.addSegment(0, 5, 80, 0);
        x.addSegment(1, 9, 0, 0);
        x.addSegment(2, 1, 80, 1);
        x.set(0, 0);
        C.due("two cracks at once, without power", x.run(1), 304);
        C.counts("front and store", x, 10, 304, 0);
        x.set(0, 200);
        x.set(3, 500);
        C.due("to the end of a crack", x.run(1), 318);
        C.counts("the ice has used all", x, 10, 318, 0);
        C.due("the last unit", x.run(1), 319);
        C.counts("the store is 0 at the top", x, 10, 319, 0);
        C.due("not stopped in this tick", x.count(19), 0);
        x.run(1);
        C.counts("stopped in the next one", x, 19, 1, 1);
    }

    private static void stockLimit() {
        C.promise(10);
        CoreMelter x = new CoreMelter();
        x.addSegment(0, 100, 60, 0);
        Checks.settings(x, 200, 10, 100, 1);
        x.run(1);
        C.counts("melts up to the limit", x, 10, 2, 188, 116);
        C.due("not stopped yet", x.count(19), 0);
        x.run(1);
        C.counts("stopped", x, 10, 2, 188, 112);
        C.counts("stopped", x, 19, 3, 1);
        x.run(4);
        C.counts("stopped at 100 still", x, 10, 2, 188, 96);
        C.counts("stopped at 100 still", x, 19, 3, 5);
        x.run(1);
        C.counts("melts again", x, 10, 3, 382, 152);
        C.counts("melts again", x, 19, 0, 5);
    }

    private static void crackWaitsForTheStock() {
        C.promise(10);
        CoreMelter x = new CoreMelter();
        x.addSegment(0, 2, 60, 0);
        x.addSegment(1, 5, 0, 0);
        x.addSegment(0, 1, 60, 0);
        Checks.settings(x, 200, 10, 100, 5);
        x.run(1);
        C.counts("in front of the crack", x, 10, 2, 188, 100);
        x.run(1);
        C.counts("still there", x, 10, 2, 188, 80);
        x.run(1);
        C.counts("over it, and to the top", x, 10, 8, 0, 120);
        x.renew();
        x.set(2, 120);
        x.run(1);
        C.counts("a stock of just its limit", x, 10, 2, 188, 100);
        x.set(2, 100);
        x.run(1);
        C.counts("stopped with just the limit", x, 10, 2, 188, 80);
        C.due("for the stock", x.count(19), 3);
    }

    private static void storeAtTheTop() {
        C.promise(10);
        CoreMelter x = new CoreMelter();
        x.addSegment(0, 1, 60, 0);
        x.run(1);
        C.counts("at the top", x, 10, 1, 0);
        x.run(3);
        C.counts("stopped: no power comes", x, 10, 1, 0);
        C.due("addSegment", x.addSegment(0, 50, 60, 0), 1);
        x.run(1);
        C.counts("it goes on in what came on top", x, 10, 4, 10);
        C.due("not stopped any more", x.count(19), 0);
    }

    private static void reasons() {
        C.promise(10);
        CoreMelter x = dusty(100);
        C.due("three stuck lines do not stop", x.count(21), 3);
        x.run(1);
        C.counts("the fourth one too", x, 19, 0, 0, 4);
        x.run(1);
        C.counts("all stuck", x, 19, 2, 1);
        C.due("the store stays", x.count(11), 20);
        x.set(2, 100);
        C.due("the stock is above its limit now", x.count(12), 120);
        x.run(1);
        C.counts("stuck lines rather than the stock", x, 19, 2, 2);
        x.clean(0);
        x.run(1);
        C.counts("the stock", x, 19, 3, 3);
        x = new CoreMelter();
        x.addSegment(2, 2, 60, 100);
        Checks.settings(x, 100, 50, 100, 10, 50);
        x.run(1);
        C.counts("at the top with a full stock", x, 10, 2, 0, 80);
        x.set(3, 1);
        x.run(1);
        C.due("the top rather than the rest", x.count(19), 1);
        x.set(4, 50);
        x.set(3, 20);
        x.run(2);
        C.counts("all stuck and at the top", x, 19, 1, 3);
        x = new CoreMelter();
        x.addSegment(2, 3, 60, 100);
        Checks.settings(x, 60, 50, 100, 15, 50);
        x.run(2);
        C.counts("the lines are stuck", x, 21, 4);
        x.addSegment(1, 3, 0, 0);
        x.run(1);
        C.due("a crack is not leapt over when stopped", x.count(10), 3);
    }

    private static void drawing() {
        C.promise(10);
        CoreMelter x = new CoreMelter();
        x.addSegment(0, 10, 80, 10);
        x.run(1);
        C.line("the flow", x, 0, 0, 0, 0, 60, 0);
        C.line("the flow", x, 1, 0, 0, 0, 60, 0);
        C.line("what is left", x, 2, 0, 0, 0, 40, 0);
        C.line("nothing is left", x, 3, 0, 0, 0, 0, 0);
        C.accounts("all drawn", x, 160, 160, 0, 16, 16, 0, 0);
        x = new CoreMelter();
        x.addSegment(0, 10, 61, 50);
        Checks.settings(x, 30, 50, 2000, 7);
        x.run(1);
        C.counts("7 of 61 with 3 of 30 gas, 3 of 27, 3 of 24, and 3 of 21", x, 12, 33, 18, 0);
        C.accounts("gas is rounded down each time", x, 61, 0, 28, 30, 12, 0, 0);
        x.set(3, 500);
        x.set(0, 0);
        x.run(1);
        C.counts("the last of it takes all gas", x, 12, 0, 0, 0);
        C.accounts("all drawn", x, 61, 0, 61, 30, 30, 0, 0);
    }

    private static void bubbles() {
        C.promise(10);
        CoreMelter x = new CoreMelter();
        x.addSegment(0, 10, 80, 50);
        x.run(1);
        C.line("50 is greater than 40", x, 0, 0, 0, 1, 60, 60);
        C.line("50 is greater than 40", x, 2, 0, 0, 1, 40, 40);
        C.line("it drew nothing", x, 3, 0, 0, 0, 0, 0);
        C.accounts("all wasted", x, 160, 0, 160, 80, 80, 0, 0);
        C.counts("told and present vial", x, 15, 2, 0, 0);
        x.set(5, 50);
        x.run(1);
        C.line("50 is not greater, but there is a gap", x, 0, 0, 0, 2, 120, 120);
        C.line("50 is not greater, and there is no gap", x, 3, 0, 0, 0, 60, 0);
        C.accounts("one line collects", x, 400, 60, 340);
        x.set(5, 49);
        x.run(1);
        C.line("the gap begins anew", x, 0, 0, 0, 1, 180, 180);
    }

    private static void bubblesRoundedDown() {
        C.promise(10);
        CoreMelter x = new CoreMelter();
        x.addSegment(0, 10, 61, 50);
        Checks.settings(x, 30, 50, 2000, 500, 500, 49);
        x.run(1);
        C.line("30 of 61 are 49 of 100", x, 0, 0, 0, 0, 61, 0);
        x.set(5, 48);
        x.run(1);
        C.line("and this is more than 48", x, 0, 0, 0, 1, 122, 61);
        x = new CoreMelter();
        x.addSegment(0, 10, 92, 45);
        Checks.settings(x, 46, 50, 2000, 500, 500, 44);
        x.run(1);
        C.accounts("41 of 41.4 gas", x, 92, 92, 0, 41, 41);
        C.line("41 of 92 are 44 of 100", x, 0, 0, 0, 0, 92, 0);
        x.set(5, 43);
        x.run(1);
        C.line("and this is more than 43", x, 0, 0, 0, 1, 184, 92);
        x = new CoreMelter();
        x.addSegment(0, 10, 60, 33);
        x.run(1);
        C.due("19 of 19.8 gas a unit", x.account(3), 57);
    }

    private static void lag() {
        C.promise(10);
        for (int lag = 0; lag <= 4; lag++) {
            CoreMelter x = new CoreMelter();
            x.addSegment(0, 1, 60, 50);
            x.addSegment(0, 300, 60, 0);
            Checks.settings(x, 30, 50, 2000, 60, 500, 40, 500, lag);
            x.run(1);
            C.due("gap behind the bubbles, lag " + lag, x.line(0, 2), 1);
            int lost = Math.max(1, lag);
            for (int draws = 1; draws < lost; draws++) {
                x.run(1);
                C.due("gap with lag " + lag, x.line(0, 2), 1 + draws);
            }
            x.run(1);
            C.due("no gap any more with lag " + lag, x.line(0, 2), 0);
            C.line("wasted with lag " + lag, x, 0, 0, 0, 0, 60 + 60 * lost, 60 + 60 * lost);
            x.run(1);
            C.line("collects again with lag " + lag, x, 0, 0, 0, 0, 120 + 60 * lost, 60 + 60 * lost);
        }
    }

    private static void dirt() {
        C.promise(10);
        CoreMelter x = new CoreMelter();
        x.addSegment(2, 1, 61, 10);
        Checks.settings(x, 30, 50, 2000, 7);
        x.run(1);
        C.counts("7 of 61 with 1 of 10, 1 of 9, 1 of 8, 1 of 7", x, 12, 33, 0, 6);
        for (int line = 0; line < 4; line++) {
            C.line("some dirt", x, line, 0, 1, 0, 7, 0);
        }
        C.accounts("dirt", x, 61, 28, 0, 0, 0, 10, 4);
    }

    private static void sticking() {
        C.promise(10);
        CoreMelter x = dusty(101);
        C.line("100 is less than 101", x, 0, 0, 100, 0, 60, 0);
        C.due("no stuck line", x.count(21), 0);
        x.set(4, 50);
        C.due("not stuck by a setting alone", x.count(21), 0);
        x.set(0, 0);
        x.set(3, 10);
        x.run(1);
        C.due("nor by drawing nothing", x.count(21), 0);
        x = dusty(100);
        C.line("100 is enough for 100", x, 0, 1, 100, 0, 60, 0);
        C.line("line 3 has drawn nothing", x, 3, 0, 0, 0, 0, 0);
        x.run(1);
        C.line("a stuck line draws nothing", x, 0, 1, 100, 0, 60, 0);
        C.line("the open one draws", x, 3, 1, 100, 0, 60, 0);
        C.due("what is left", x.count(12), 120);
        x.set(4, 5000);
        x.run(1);
        C.due("a higher limit does not open", x.count(21), 4);
    }

    private static void toldDepth() {
        C.promise(10);
        CoreMelter x = new CoreMelter();
        x.addSegment(0, 2, 80, 0);
        x.addSegment(1, 5, 0, 0);
        x.addSegment(0, 2, 60, 0);
        Checks.settings(x, 200, 10, 2000, 20);
        C.due("80 drawn of 280", x.run(1), 1);
        C.due("the front", x.count(10), 9);
        C.due("160 drawn: to the end of the crack", x.run(1), 7);
        C.due("219 are too little", x.run(1), 8);
        C.due("280 drawn", x.run(1), 9);
        C.due("at the top", x.run(1), 9);
        x = new CoreMelter();
        x.addSegment(0, 2, 60, 0);
        x.addSegment(1, 5, 0, 0);
        Checks.settings(x, 200, 10, 100, 30);
        C.due("all drawn, but the front is below the crack", x.run(1), 2);
        C.due("the front leaps", x.run(1), 7);
    }

    private static void count() {
        C.promise(11);
        CoreMelter x = new CoreMelter();
        C.due("count(-1)", x.count(-1), INVALID);
        C.due("count(24)", x.count(24), INVALID);
        C.due("count(FAR)", x.count(FAR), INVALID);
        C.due("count(MIN)", x.count(Integer.MIN_VALUE), INVALID);
        x.addSegment(0, 6, 80, 20);
        x.addSegment(2, 90, 70, 50);
        x.addSegment(1, 4, 0, 0);
        Checks.settings(x, 110, 60, 500, 20, 400, 30, 60, 7);
        Checks.type(x, "abc");
        x.run(1);
        C.counts("in all", x, 0, 110, 60, 500, 20, 400, 30, 60, 7);
        C.counts("in all", x, 8, 3, 100, 2, 14, 80, 16, 0, 1, 1, 0, 1, 0, 0, 0, 5, 3);
        x.run(2);
        C.counts("later", x, 8, 3, 100, 7, 0, 310, 52, 42, 3, 3, 0, 3, 0, 0, 0, 5, 3);
    }

    private static void account() {
        C.promise(12);
        CoreMelter x = new CoreMelter();
        C.due("account(-1)", x.account(-1), INVALID);
        C.due("account(7)", x.account(7), INVALID);
        C.due("account(FAR)", x.account(FAR), INVALID);
        x.addSegment(0, 4, 80, 50);
        x.addSegment(2, 100, 60, 10);
        Checks.settings(x, 160, 50, 2000, 50);
        x.run(1);
        C.accounts("gas 40 a unit, 50 of 100", x, 320, 0, 200, 160, 100, 0, 0);
        x.run(1);
        C.accounts("five units of dust", x, 620, 0, 400, 160, 128, 50, 23);
        C.counts("what has melted is what was drawn and what is in the stock", x, 12, 220, 32, 27);
    }

    private static void line() {
        C.promise(13);
        CoreMelter x = dusty(100);
        C.due("line(-1, 0)", x.line(-1, 0), INVALID);
        C.due("line(4, 0)", x.line(4, 0), INVALID);
        C.due("line(FAR, 0)", x.line(FAR, 0), INVALID);
        C.due("line(0, -1)", x.line(0, -1), INVALID);
        C.due("line(0, 5)", x.line(0, 5), INVALID);
        C.line("stuck", x, 2, 1, 100, 0, 60, 0);
        C.line("open", x, 3, 0, 0, 0, 0, 0);
    }
}
