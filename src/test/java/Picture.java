import java.util.ArrayList;
import java.util.List;

/** All that a melter tells of itself, with what it says would be, so that two of them can be compared. */
final class Picture {
    private final List<String> entries = new ArrayList<>();

    static List<String> of(CoreMelter x) {
        Picture picture = new Picture();
        picture.core(x);
        picture.plate(x);
        picture.restAndFuture(x);
        return picture.entries;
    }

    private void add(String call, int answer) {
        entries.add(call + " is " + answer);
    }

    private void core(CoreMelter x) {
        for (int what = 0; what <= 23; what++) {
            add("count(" + what + ")", x.count(what));
        }
        int segments = x.count(8);
        for (int segment = 0; segment < segments; segment++) {
            for (int what = 0; what <= 5; what++) {
                add("segment(" + segment + ", " + what + ")", x.segment(segment, what));
            }
        }
    }

    private void plate(CoreMelter x) {
        for (int what = 0; what <= 6; what++) {
            add("account(" + what + ")", x.account(what));
        }
        for (int line = 0; line < 4; line++) {
            for (int what = 0; what <= 4; what++) {
                add("line(" + line + ", " + what + ")", x.line(line, what));
            }
        }
        int vials = x.count(16);
        for (int vial = 0; vial < vials; vial++) {
            for (int what = 0; what <= 3; what++) {
                add("vial(" + vial + ", " + what + ")", x.vial(vial, what));
            }
        }
    }

    private void restAndFuture(CoreMelter x) {
        for (int what = 0; what <= 2; what++) {
            add("fault(" + what + ")", x.fault(what));
        }
        for (int what = 0; what <= 6; what++) {
            add("ifRun(7, " + what + ")", x.ifRun(7, what));
        }
        add("again()", x.again());
    }
}
