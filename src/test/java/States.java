/** Melters in which much has happened, to look whether a refused call leaves all of it as it was. */
final class States {
    private States() { }

    /** Nothing is 0: an open line with a gap, stuck ones, a stock, vials, a full history, a text with a fault. */
    static CoreMelter busy() {
        CoreMelter x = new CoreMelter();
        x.addSegment(0, 6, 80, 4);
        x.addSegment(1, 3, 0, 0);
        x.addSegment(2, 6, 61, 90);
        x.addSegment(0, 100, 75, 50);
        Checks.settings(x, 190, 50, 300, 45, 134, 40, 50, 9);
        Checks.type(x, "crack 5;dust 7 60");
        x.run(1);
        x.set(6, 200);
        x.run(6);
        x.set(2, 100);
        x.run(1);
        return x;
    }

    /** 20 segments and 100 characters. */
    static CoreMelter full() {
        CoreMelter x = new CoreMelter();
        for (int i = 0; i < 20; i++) {
            x.addSegment(i % 2 * 2, 300, 80, 7);
        }
        for (int i = 0; i < 12; i++) {
            Checks.type(x, "crack 1;");
        }
        Checks.type(x, "ice ");
        x.run(3);
        return x;
    }

    /** So many cracks of length 1. */
    static CoreMelter cracks(int many) {
        CoreMelter x = new CoreMelter();
        for (int i = 0; i < many; i++) {
            x.addSegment(1, 1, 0, 0);
        }
        return x;
    }

    /** Ticks have gone by without a core, so many thousands and some more. */
    static CoreMelter old(int thousands, int more) {
        CoreMelter x = new CoreMelter();
        for (int i = 0; i < thousands; i++) {
            x.run(1000);
        }
        if (more > 0) {
            x.run(more);
        }
        return x;
    }

    /** One unit with 60 water melts in each tick, and line 0 collects it; a vial is sealed from this much water on. */
    static CoreMelter steady(int vial) {
        CoreMelter x = new CoreMelter();
        x.addSegment(0, 300, 60, 0);
        Checks.settings(x, 30, 50, 2000, 60, 500, 40, vial);
        return x;
    }

    /** Three units of dust with 180 water and 300 dirt melt in a tick; three lines draw 60 and 100 each. */
    static CoreMelter dusty(int dirtLimit) {
        CoreMelter x = new CoreMelter();
        x.addSegment(2, 100, 60, 100);
        x.set(4, dirtLimit);
        x.run(1);
        return x;
    }
}
