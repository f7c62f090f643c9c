import java.util.Random;

/**
 * Plays chance runs of calls (from fixed seeds) against MelterModel, which is the document written a second time.
 * Usage: ModelTest [number of runs [first seed]]
 */
public final class ModelTest {
    private static final int CALLS = 512;
    private static final int[][] SETTING_RANGES = {
        {0, 200}, {10, 200}, {100, 20000}, {1, 500}, {50, 5000}, {5, 200}, {50, 5000}, {0, 50}};
    private static final int[] EXTREMES = {Integer.MIN_VALUE, -1000, -1, 1001, 20001, 1 << 30, Integer.MAX_VALUE};

    private final Random random;
    private final CoreMelter melter = new CoreMelter();
    private final MelterModel model = new MelterModel();
    private final int style;
    private String call = "";
    private int got;
    private int want;
    private int toldBefore;

    private ModelTest(long seed) {
        random = new Random(seed);
        style = random.nextInt(4);
    }

    public static void main(String[] args) {
        int runs = args.length > 0 ? Integer.parseInt(args[0]) : 300;
        int firstSeed = args.length > 1 ? Integer.parseInt(args[1]) : 1;
        int failed = 0;
        for (int seed = firstSeed; seed < firstSeed + runs; seed++) {
            String fault = new ModelTest(seed).play();
            if (fault != null) {
                failed++;
                System.out.println("ModelTest: seed " + seed + ": " + fault);
            }
        }
        System.out.println("ModelTest: " + (runs - failed) + " passed, " + failed + " failed");
        if (failed > 0) {
            System.exit(1);
        }
    }

    private String play() {
        for (int i = 0; i < CALLS; i++) {
            ask();
            if (got != want) {
                return "call " + i + ": " + call + " answered " + got + ", the model says " + want;
            }
        }
        return lookThroughAll();
    }

    /** Answers behind the 512th call are free by the document, yet nothing in the class counts its calls. */
    private String lookThroughAll() {
        for (int what = -1; what <= 24; what++) {
            if (melter.count(what) != model.count(what) || melter.account(what) != model.account(what)) {
                return "in the end: count or account " + what;
            }
            for (int of = -1; of <= 41; of++) {
                if (melter.line(of, what) != model.line(of, what) || melter.vial(of, what) != model.vial(of, what)
                    || melter.segment(of, what) != model.segment(of, what)) {
                    return "in the end: line, vial or segment " + of + ", " + what;
                }
            }
        }
        return null;
    }

    private int between(int least, int most) {
        return least + random.nextInt(most - least + 1);
    }

    /** Mostly a value in the range, often one of its ends, now and then one just outside of it or far away. */
    private int near(int least, int most) {
        switch (random.nextInt(24)) {
            case 0: return least;
            case 1: return most;
            case 2: return random.nextInt(3) == 0 ? least - 1 : least;
            case 3: return random.nextInt(3) == 0 ? most + 1 : most;
            case 4: return random.nextInt(4) == 0 ? EXTREMES[random.nextInt(EXTREMES.length)] : most;
            default: return between(least, most);
        }
    }

    private void ask() {
        int choice = random.nextInt(100);
        if (choice < 8) {
            askAddSegment();
        } else if (choice < 20) {
            askSet();
        } else if (choice < 36) {
            askRun();
        } else if (choice < 60) {
            askNumbers();
        } else if (choice < 80) {
            askPlaces();
        } else if (choice < 86) {
            askWhatWouldBe();
        } else if (choice < 92) {
            askText();
        } else {
            askChange();
        }
    }

    private void said(String name, int got, int want, int... arguments) {
        StringBuilder whole = new StringBuilder(name).append('(');
        for (int i = 0; i < arguments.length; i++) {
            whole.append(i == 0 ? "" : ", ").append(arguments[i]);
        }
        this.call = whole.append(')').toString();
        this.got = got;
        this.want = want;
    }

    private void askAddSegment() {
        int kind = near(0, 2);
        int length = style == 0 ? near(1, 300) : near(1, 40);
        int density = kind == 1 && random.nextInt(8) > 0 ? 0 : near(60, 92);
        int more = kind == 1 && random.nextInt(8) > 0 ? 0 : near(kind == 2 ? 1 : 0, kind == 0 ? 50 : 100);
        said("addSegment", melter.addSegment(kind, length, density, more),
            model.addSegment(kind, length, density, more), kind, length, density, more);
    }

    private void askSet() {
        int what = near(0, 7);
        int[] range = SETTING_RANGES[Math.max(0, Math.min(what, 7))];
        int value = near(range[0], range[1]);
        if (random.nextInt(3) > 0 && (what == 2 || what == 4 || what == 6)) {
            value = near(range[0], range[0] + 400);
        }
        if (style == 1 && what == 3) {
            value = near(1, 20);
        }
        if (style == 2 && what == 0) {
            value = near(0, 10);
        }
        said("set", melter.set(what, value), model.set(what, value), what, value);
    }

    private void askRun() {
        int ticks = style == 3 ? near(900, 1000) : random.nextInt(6) == 0 ? near(1, 1000) : near(1, 12);
        toldBefore = melter.count(15);
        said("run", melter.run(ticks), model.run(ticks), ticks);
        if (got >= 0 && got < toldBefore) {
            want = toldBefore;
            call = "depth that is told went back: " + call;
        }
    }

    private void askNumbers() {
        int what;
        int of;
        switch (random.nextInt(6)) {
            case 0:
            case 1:
                what = near(0, 23);
                said("count", melter.count(what), model.count(what), what);
                break;
            case 2:
                what = near(0, 6);
                said("account", melter.account(what), model.account(what), what);
                break;
            case 3:
                of = near(0, 3);
                what = near(0, 4);
                said("line", melter.line(of, what), model.line(of, what), of, what);
                break;
            case 4:
                of = near(0, Math.max(0, melter.count(16) - 1));
                what = near(0, 3);
                said("vial", melter.vial(of, what), model.vial(of, what), of, what);
                break;
            default:
                of = near(0, Math.max(0, melter.count(8) - 1));
                what = near(0, 5);
                said("segment", melter.segment(of, what), model.segment(of, what), of, what);
        }
    }

    private void askPlaces() {
        int depth = near(0, melter.count(9));
        switch (random.nextInt(4)) {
            case 0:
                said("segmentAt", melter.segmentAt(depth), model.segmentAt(depth), depth);
                break;
            case 1:
                said("waterBelow", melter.waterBelow(depth), model.waterBelow(depth), depth);
                break;
            case 2:
                depth = near(0, melter.count(15));
                said("vialAt", melter.vialAt(depth), model.vialAt(depth), depth);
                break;
            default:
                said("again", melter.again(), model.again());
        }
    }

    private void askWhatWouldBe() {
        int ticks = random.nextInt(5) == 0 ? near(1, 1000) : near(1, 60);
        int what = near(0, 6);
        switch (random.nextInt(8)) {
            case 0:
                ticks = random.nextInt(5) == 0 ? near(1, 300) : near(1, 30);
                said("flowFor", melter.flowFor(ticks), model.flowFor(ticks), ticks);
                break;
            case 1:
            case 2:
            case 3:
                int depth = near(0, Math.min(melter.count(9), melter.count(15) + 30));
                said("ticksTo", melter.ticksTo(depth), model.ticksTo(depth), depth);
                break;
            default:
                said("ifRun", melter.ifRun(ticks, what), model.ifRun(ticks, what), ticks, what);
        }
    }

    private void askText() {
        switch (random.nextInt(12)) {
            case 0:
                said("clearText", melter.clearText(), model.clearText());
                break;
            case 1:
                said("lay", melter.lay(), model.lay());
                break;
            case 2:
            case 3:
            case 4:
                int what = near(0, 2);
                said("fault", melter.fault(what), model.fault(what), what);
                break;
            default:
                typeAll(someSegment());
        }
    }

    private void typeAll(String typed) {
        for (int i = 0; i < typed.length(); i++) {
            int character = random.nextInt(100) == 0 ? near(32, 126) : typed.charAt(i);
            said("type", melter.type(character), model.type(character), character);
            if (got != want) {
                return;
            }
        }
        int what = near(0, 2);
        said("fault", melter.fault(what), model.fault(what), what);
    }

    private String someSegment() {
        String[] words = {"ice", "crack", "dust", "ice", "crack", "dust", "crack", "ic", "Ice", "dusty", ""};
        String word = words[random.nextInt(words.length)];
        StringBuilder typed = new StringBuilder(word);
        int numbers = word.equals("crack") ? 1 : 3;
        if (random.nextInt(20) == 0) {
            numbers += random.nextInt(3) - 1;
        }
        for (int i = 0; i < numbers; i++) {
            typed.append(random.nextInt(40) == 0 ? "" : " ").append(someNumber(i));
        }
        return typed.append(random.nextInt(20) == 0 ? "" : ";").toString();
    }

    private String someNumber(int place) {
        int value = place == 0 ? near(1, 300) : place == 1 ? near(60, 92) : near(0, 50);
        String digits = Integer.toString(Math.abs(value % 10000));
        return random.nextInt(8) == 0 ? "0".repeat(random.nextInt(3)) + digits : digits;
    }

    private void askChange() {
        switch (random.nextInt(8)) {
            case 0:
                if (random.nextInt(3) == 0) {
                    said("renew", melter.renew(), model.renew());
                    break;
                }
                said("again", melter.again(), model.again());
                break;
            case 1:
            case 2:
            case 3:
                said("undo", melter.undo(), model.undo());
                break;
            default:
                int line = near(0, 3);
                said("clean", melter.clean(line), model.clean(line), line);
        }
    }
}
