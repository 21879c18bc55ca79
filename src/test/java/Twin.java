import java.util.ArrayList;
import java.util.List;
import java.util.NoSuchElementException;

/** Two objects made alike: one of them is called once more, and both are looked at from all sides then. */
final class Twin {
    interface Maker {
        MuleSeasons make();
    }

    interface Call {
        long on(MuleSeasons x);
    }

    private static final int NO_GROUND = -1;
    private static final int STATES = 5;
    private static final int ROWS_OF_LOG = 12;

    private Twin() {
    }

    /** The call is refused: it answers so, counts one in STATUS by its ground, and changes nothing else. */
    static void refused(String name, Maker maker, Call call, long want, int ground) {
        MuleSeasons called = maker.make();
        MuleSeasons left = maker.make();
        Check.due(name, call.on(called), want);
        for (int what = 0; what < STATES; what++) {
            int more = what == ground ? 1 : 0;
            Check.due("STATUS " + what + " behind " + name, called.status(what), left.status(what) + more);
        }
        List<String> got = all(called);
        List<String> due = all(left);
        for (int i = 0; i < due.size() && i < got.size(); i++) {
            if (!got.get(i).equals(due.get(i))) {
                Check.wrong("behind " + name + " it is " + got.get(i) + ", due is " + due.get(i));
                return;
            }
        }
        Check.due("how much can be told behind " + name, got.size(), due.size());
    }

    /** The call answers so and changes nothing at all, STATUS neither. */
    static void unchanged(String name, Maker maker, Call call, long want) {
        refused(name, maker, call, want, NO_GROUND);
    }

    /** All that the face tells of an object; undoes its acts and brings its image back at the end. */
    static List<String> all(MuleSeasons x) {
        List<String> told = new ArrayList<>();
        tellCounts(told, x);
        tellMonths(told, x);
        tellCrops(told, x);
        tellLog(told, x);
        tellAsked(told, x);
        tellLaws(told, x);
        tellActs(told, x);
        tellImage(told, x);
        return told;
    }

    private static void tell(List<String> told, String call, long answer) {
        told.add(call + " " + answer);
    }

    private static void tellCounts(List<String> told, MuleSeasons x) {
        for (int what = 0; what < 16; what++) {
            tell(told, "count(" + what + ")", x.count(what));
        }
        for (int what = 0; what < 4; what++) {
            tell(told, "rule(" + what + ")", x.rule(what));
        }
        tell(told, "fault(0)", x.fault(0));
        tell(told, "fault(1)", x.fault(1));
    }

    private static void tellMonths(List<String> told, MuleSeasons x) {
        for (int month = 0; month < x.count(0); month++) {
            for (int what = 0; what < 5; what++) {
                tell(told, "month(" + month + ", " + what + ")", x.month(month, what));
            }
        }
    }

    private static void tellCrops(List<String> told, MuleSeasons x) {
        for (int crop = 0; crop < x.count(1); crop++) {
            for (int what = 0; what < 6; what++) {
                tell(told, "crop(" + crop + ", " + what + ")", cropOf(x, crop, what));
            }
        }
    }

    private static long cropOf(MuleSeasons x, int crop, int what) {
        try {
            return x.crop(crop, what);
        } catch (NoSuchElementException e) {
            return Long.MIN_VALUE;
        }
    }

    private static void tellLog(List<String> told, MuleSeasons x) {
        int rows = x.count(14);
        for (int i = 0; i < rows; i++) {
            for (int what = 0; what < 4 && (i < ROWS_OF_LOG || i == rows - 1); what++) {
                tell(told, "log(" + i + ", " + what + ")", x.log(i, what));
            }
        }
    }

    private static void tellAsked(List<String> told, MuleSeasons x) {
        tell(told, "ahead(7, false, 1)", x.ahead(7, false, 1));
        tell(told, "ahead(7, true, 0)", x.ahead(7, true, 0));
        tell(told, "level(0, 1)", x.level(0, 1));
        tell(told, "lasts()", x.lasts());
        tell(told, "who(1, -1)", x.who(1, -1));
        tell(told, "who(1, 0)", x.who(1, 0));
        tell(told, "best(1)", x.best(1));
    }

    private static void tellLaws(List<String> told, MuleSeasons x) {
        int holds = x.count(4);
        for (int law = -1; law < x.count(2); law++) {
            x.law(law);
            tell(told, "pull() by law " + law, x.pull());
        }
        x.law(holds);
    }

    private static void tellActs(List<String> told, MuleSeasons x) {
        int acts = x.count(15);
        for (int i = 0; i < acts; i++) {
            tell(told, "undo()", x.undo());
            tell(told, "then count(5)", x.count(5));
            tell(told, "then rule(1)", x.rule(1));
            tell(told, "then rule(3)", x.rule(3));
        }
        tell(told, "undo()", x.undo());
    }

    private static void tellImage(List<String> told, MuleSeasons x) {
        tell(told, "back()", x.back());
        tell(told, "then rule(0)", x.rule(0));
        tell(told, "then rule(1)", x.rule(1));
        tell(told, "then rule(3)", x.rule(3));
        tell(told, "then count(8)", x.count(8));
        tell(told, "then count(14)", x.count(14));
    }
}
