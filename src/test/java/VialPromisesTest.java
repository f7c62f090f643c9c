/** Promises 14 to 19: the second way to the depth, vials, and what would be. */
public final class VialPromisesTest {
    private static final Checks C = new Checks("VialPromisesTest");
    private static final int INVALID = -1;
    private static final int FAR = Integer.MAX_VALUE;

    public static void main(String[] args) {
        again();
        againAgrees();
        sealing();
        sealingAtItsEdge();
        fortyVials();
        vialArguments();
        vialAt();
        ifRun();
        ifRunChangesNothing();
        ifRunErrors();
        ticksTo();
        ticksToTwoThousand();
        ticksToInAll();
        flowFor();
        flowForErrors();
        C.close();
    }

    private static void again() {
        C.promise(14);
        C.due("without a core", new CoreMelter().again(), 0);
        CoreMelter x = new CoreMelter();
        x.addSegment(1, 3, 0, 0);
        x.addSegment(0, 2, 60, 0);
        x.addSegment(1, 5, 0, 0);
        C.due("the front is in front of the crack", x.again(), 0);
        Checks.settings(x, 200, 10, 100, 1);
        x.run(1);
        C.due("behind the crack, 4 drawn of 120", x.again(), 3);
        x.set(3, 14);
        x.run(1);
        C.due("60 drawn", x.again(), 4);
        C.due("the front is in front of the second crack", x.count(10), 5);
        x.set(3, 15);
        x.run(1);
        C.due("120 drawn", x.again(), 10);
        x.addSegment(1, 5, 0, 0);
        C.due("a crack on top does not raise it", x.again(), 10);
        C.due("the front leaps", x.run(1), 15);
        C.due("and it follows", x.again(), 15);
    }

    private static void againAgrees() {
        C.promise(14);
        CoreMelter x = new CoreMelter();
        x.addSegment(0, 5, 70, 50);
        x.addSegment(1, 5, 0, 0);
        x.addSegment(2, 7, 92, 13);
        x.addSegment(1, 2, 0, 0);
        x.addSegment(1, 3, 0, 0);
        x.addSegment(0, 9, 61, 33);
        Checks.settings(x, 33, 37, 150, 11);
        int before = 0;
        for (int i = 0; i < 90; i++) {
            int told = x.run(1);
            C.due("again() behind tick " + (i + 1), x.again(), told);
            C.due("count(15) behind tick " + (i + 1), x.count(15), told);
            C.due("it never goes back, tick " + (i + 1), told >= before ? 1 : 0, 1);
            before = told;
        }
        C.due("the end", before, 31);
        x = new CoreMelter();
        for (int i = 0; i < 20; i++) {
            x.addSegment(0, 1, 60, 0);
        }
        x.run(20);
        C.due("all of a full core", x.again(), 20);
    }

    /** One unit with 60 water melts in each tick, and line 0 collects it. */
    private static CoreMelter steady(int vial) {
        CoreMelter x = new CoreMelter();
        x.addSegment(0, 300, 60, 0);
        Checks.settings(x, 30, 50, 2000, 60, 500, 40, vial);
        return x;
    }

    private static void sealing() {
        C.promise(15);
        CoreMelter x = steady(100);
        x.run(1);
        C.counts("60 are too little", x, 16, 0, 60);
        x.run(1);
        C.counts("120 are sealed", x, 16, 1, 0);
        x.run(4);
        C.vial("the first", x, 0, 120, 2, 0, 2);
        C.vial("the second", x, 1, 120, 4, 2, 4);
        C.vial("the third", x, 2, 120, 6, 4, 6);
        x.set(6, 5000);
        x.run(10);
        C.counts("filling", x, 16, 3, 600);
        x.set(6, 50);
        x.run(1);
        C.counts("one vial in a tick, with all that it has", x, 16, 4, 0);
        C.vial("a great one", x, 3, 660, 17, 6, 17);
        x.set(6, 500);
        x.run(2);
        x.set(0, 0);
        x.set(6, 120);
        C.counts("not sealed by a setting", x, 16, 4, 120);
        x.run(1);
        C.vial("sealed by a tick without melt", x, 4, 120, 19, 17, 20);
    }

    private static void sealingAtItsEdge() {
        C.promise(15);
        CoreMelter x = steady(60);
        x.run(1);
        C.counts("60 are enough for 60", x, 16, 1, 0);
        x = steady(61);
        x.run(1);
        C.counts("60 are not enough for 61", x, 16, 0, 60);
        x = new CoreMelter();
        x.addSegment(0, 2, 80, 0);
        Checks.settings(x, 200, 10, 2000, 10, 500, 40, 50);
        x.run(2);
        C.vial("the depth that is told, and not the front", x, 0, 80, 1, 0, 2);
        C.due("the front", x.count(10), 2);
    }

    private static void fortyVials() {
        C.promise(15);
        CoreMelter x = steady(50);
        x.run(39);
        C.counts("39", x, 16, 39, 0);
        x.run(1);
        C.counts("40", x, 16, 40, 0);
        x.run(3);
        C.counts("the present vial goes on being filled", x, 16, 40, 180);
        C.vial("the last", x, 39, 60, 40, 39, 40);
        C.due("there is no vial 40", x.vial(40, 0), INVALID);
        C.due("vialAt(39)", x.vialAt(39), 39);
        C.due("vialAt(40)", x.vialAt(40), -4);
        x.run(200);
        C.counts("and on", x, 16, 40, 180 + 200 * 60);
    }

    private static void vialArguments() {
        C.promise(15);
        CoreMelter x = steady(50);
        C.due("no vial", x.vial(0, 0), INVALID);
        x.run(2);
        C.due("vial(-1, 0)", x.vial(-1, 0), INVALID);
        C.due("vial(2, 0)", x.vial(2, 0), INVALID);
        C.due("vial(FAR, 0)", x.vial(FAR, 0), INVALID);
        C.due("vial(0, -1)", x.vial(0, -1), INVALID);
        C.due("vial(0, 4)", x.vial(0, 4), INVALID);
        C.due("vial(1, 0)", x.vial(1, 0), 60);
    }

    private static void vialAt() {
        C.promise(16);
        CoreMelter x = steady(100);
        C.due("no vial", x.vialAt(0), -4);
        x.run(5);
        int[] want = {0, 0, 1, 1, -4, -4};
        for (int depth = 0; depth < want.length; depth++) {
            C.due("vialAt(" + depth + ")", x.vialAt(depth), want[depth]);
        }
        C.due("vialAt(FAR)", x.vialAt(FAR), -4);
        C.due("vialAt(-1)", x.vialAt(-1), INVALID);
        C.due("vialAt(MIN)", x.vialAt(Integer.MIN_VALUE), INVALID);
    }

    private static void ifRun() {
        C.promise(17);
        CoreMelter x = new CoreMelter();
        x.addSegment(0, 2, 80, 50);
        x.addSegment(1, 3, 0, 0);
        x.addSegment(2, 5, 60, 100);
        Checks.settings(x, 80, 50, 2000, 500, 100, 40, 50, 0);
        x.run(1);
        C.accounts("two units are wasted", x, 160, 0, 160);
        int[] one = {7, 7, 0, 120, 0, 1, 0};
        int[] three = {10, 10, 180, 120, 1, 2, 1};
        int[] ten = {10, 10, 180, 120, 1, 2, 8};
        for (int what = 0; what < 7; what++) {
            C.due("ifRun(1, " + what + ")", x.ifRun(1, what), one[what]);
            C.due("ifRun(3, " + what + ")", x.ifRun(3, what), three[what]);
            C.due("ifRun(10, " + what + ")", x.ifRun(10, what), ten[what]);
        }
        x.run(1);
        C.due("by how much more is collected", x.ifRun(1, 2), 180);
        C.due("by how much more is wasted", x.ifRun(1, 3), 0);
        C.due("how many more", x.ifRun(1, 4), 1);
        C.due("in how many of these ticks", x.ifRun(1000, 6), 999);
        x.addSegment(0, 10, 60, 0);
        x.set(4, 5000);
        x.run(2);
        C.accounts("some is collected", x, 640, 360, 280);
        C.due("a vial is sealed", x.count(16), 2);
        int[] more = {15, 15, 120, 0, 1, 1, 0};
        for (int what = 0; what < 7; what++) {
            C.due("ifRun(1, " + what + ") behind these", x.ifRun(1, what), more[what]);
        }
    }

    private static void ifRunChangesNothing() {
        C.promise(17);
        CoreMelter x = new CoreMelter();
        x.addSegment(2, 20, 60, 100);
        Checks.settings(x, 80, 50, 2000, 500, 100, 40, 50, 0);
        x.run(1);
        for (int what = 0; what < 7; what++) {
            x.ifRun(5, what);
            x.ticksTo(what + 3);
            x.flowFor(3);
        }
        C.counts("nothing changes", x, 0, 80, 50, 2000, 500, 100, 40, 50, 0);
        C.counts("nothing changes", x, 8, 1, 20, 2, 20, 0, 0, 0, 2, 1, 0, 1, 0, 0, 1, 5, 0);
        C.accounts("nothing changes", x, 120, 120, 0, 0, 0, 200, 200);
        C.line("nothing changes", x, 0, 1, 200, 0, 120, 0);
        C.due("no vial is sealed", x.vial(1, 0), INVALID);
        C.due("nor is the core longer", x.undo(), 4);
    }

    private static void ifRunErrors() {
        C.promise(17);
        CoreMelter x = new CoreMelter();
        C.due("ifRun(0, 0)", x.ifRun(0, 0), INVALID);
        C.due("ifRun(1001, 0)", x.ifRun(1001, 0), INVALID);
        C.due("ifRun(FAR, 0)", x.ifRun(FAR, 0), INVALID);
        C.due("ifRun(1, -1)", x.ifRun(1, -1), INVALID);
        C.due("ifRun(1, 7)", x.ifRun(1, 7), INVALID);
        C.due("ifRun(1000, 6)", x.ifRun(1000, 6), 1000);
        for (int i = 0; i < 19; i++) {
            x.run(1000);
        }
        x.run(999);
        C.due("ifRun(1, 6) at 19999", x.ifRun(1, 6), 1);
        C.due("ifRun(2, 6) at 19999", x.ifRun(2, 6), -3);
        C.due("ifRun(2, 7) at 19999", x.ifRun(2, 7), INVALID);
        C.due("ifRun(1001, 0) at 19999", x.ifRun(1001, 0), INVALID);
    }

    private static void ticksTo() {
        C.promise(18);
        CoreMelter x = new CoreMelter();
        C.due("ticksTo(-1)", x.ticksTo(-1), INVALID);
        C.due("ticksTo(MIN)", x.ticksTo(Integer.MIN_VALUE), INVALID);
        C.due("ticksTo(0)", x.ticksTo(0), 0);
        C.due("without a core", x.ticksTo(1), -4);
        x.addSegment(0, 10, 80, 0);
        int[] want = {0, 1, 1, 2, 2, 2, 3, 3, 4, 4, 4, -4};
        for (int depth = 0; depth < want.length; depth++) {
            C.due("ticksTo(" + depth + ")", x.ticksTo(depth), want[depth]);
        }
        C.due("ticksTo(FAR)", x.ticksTo(FAR), -4);
        x.run(2);
        C.due("it is so now", x.ticksTo(5), 0);
        C.due("from now on", x.ticksTo(6), 1);
    }

    /** A unit melts in every 40 ticks. */
    private static CoreMelter slow() {
        CoreMelter x = new CoreMelter();
        x.addSegment(0, 100, 80, 0);
        x.set(0, 1);
        return x;
    }

    private static void ticksToTwoThousand() {
        C.promise(18);
        CoreMelter x = slow();
        C.due("ticksTo(49)", x.ticksTo(49), 1960);
        C.due("behind 2000", x.ticksTo(50), 2000);
        C.due("behind 2040", x.ticksTo(51), -4);
        x.run(39);
        C.due("behind 2041 from here", x.ticksTo(52), -4);
        C.due("behind 2001 from here", x.ticksTo(51), -4);
        x.run(1);
        C.due("behind 2000 from here", x.ticksTo(51), 2000);
    }

    private static void ticksToInAll() {
        C.promise(18);
        CoreMelter x = slow();
        x.set(0, 0);
        for (int i = 0; i < 19; i++) {
            x.run(1000);
        }
        x.run(960);
        x.set(0, 1);
        C.due("behind 20000 in all", x.ticksTo(1), 40);
        C.due("more than 20000 in all", x.ticksTo(2), -4);
        x.undo();
        x.run(1);
        x.set(0, 1);
        C.due("behind 20001 in all", x.ticksTo(1), -4);
        x.run(39);
        C.due("no tick is left", x.ticksTo(1), -4);
        C.due("it is so now", x.ticksTo(0), 0);
    }

    private static void flowFor() {
        C.promise(19);
        CoreMelter x = new CoreMelter();
        C.due("without a core", x.flowFor(1), 10);
        x.addSegment(0, 10, 80, 10);
        C.due("160 by four lines", x.flowFor(1), 40);
        C.due("240 by four lines in the next tick", x.flowFor(2), 60);
        C.due("time enough for the least flow", x.flowFor(300), 10);
        C.due("the setting stays", x.count(3), 60);
        x = new CoreMelter();
        x.addSegment(0, 100, 60, 0);
        Checks.settings(x, 200, 10);
        C.due("1980 by four lines", x.flowFor(1), 500);
        x = new CoreMelter();
        x.addSegment(0, 33, 60, 0);
        x.addSegment(0, 1, 60, 0);
        Checks.settings(x, 200, 10, 1920);
        C.due("1920 by four lines", x.flowFor(1), 480);
        x = new CoreMelter();
        x.addSegment(0, 10, 80, 50);
        C.due("all is wasted with any flow", x.flowFor(5), 10);
    }

    private static void flowForErrors() {
        C.promise(19);
        CoreMelter x = new CoreMelter();
        C.due("flowFor(0)", x.flowFor(0), INVALID);
        C.due("flowFor(-1)", x.flowFor(-1), INVALID);
        C.due("flowFor(301)", x.flowFor(301), INVALID);
        C.due("flowFor(FAR)", x.flowFor(FAR), INVALID);
        C.due("flowFor(300)", x.flowFor(300), 10);
        for (int i = 0; i < 19; i++) {
            x.run(1000);
        }
        x.run(700);
        C.due("flowFor(300) at 19700", x.flowFor(300), 10);
        x.run(1);
        C.due("flowFor(300) at 19701", x.flowFor(300), -3);
        C.due("flowFor(301) at 19701", x.flowFor(301), INVALID);
        C.due("flowFor(299) at 19701", x.flowFor(299), 10);
    }
}
