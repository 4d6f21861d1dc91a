import java.util.ArrayList;
import java.util.List;

/**
 * Two objects that hear the same calls, but for one that is refused: all that they answer must
 * stay alike, at once and after hours in which a change that no question shows would come out.
 */
final class Twins {
    /** Calls that make an object what a test needs. */
    interface Story {
        void on(WaterMeadows x);
    }

    interface Call {
        int on(WaterMeadows x);
    }

    // More than a day, so that each hour of the day comes, for the mill and for the sheep.
    private static final int LATER = 30;

    private Twins() {
    }

    static void refused(Check check, String what, Story ahead, Call call, int want) {
        compare(check, what, ahead, call, want, 0);
        // New twins, as an object is used for 512 calls at most and the answers take some hundreds.
        compare(check, what, ahead, call, want, LATER);
    }

    private static void compare(Check check, String what, Story ahead, Call call, int want, int hours) {
        WaterMeadows asked = new WaterMeadows();
        WaterMeadows spared = new WaterMeadows();
        ahead.on(asked);
        ahead.on(spared);
        check.due(what, call.on(asked), want);
        if (hours > 0) {
            check.due(what + ": hours go on alike", asked.hours(hours), spared.hours(hours));
        }
        List<String> is = answers(asked);
        List<String> due = answers(spared);
        check.holds("nothing changes by " + what + " seen " + hours + " hours later: " + firstOff(is, due), is.equals(due));
    }

    private static String firstOff(List<String> is, List<String> due) {
        for (int i = 0; i < is.size() && i < due.size(); i++) {
            if (!is.get(i).equals(due.get(i))) {
                return is.get(i) + " where due is " + due.get(i);
            }
        }
        return is.size() + " answers where due are " + due.size();
    }

    /** All that can be asked of an object; the last one is a deed, as no question tells the right. */
    private static List<String> answers(WaterMeadows x) {
        List<String> all = new ArrayList<>();
        ask(all, "count", 3, x::count);
        ask(all, "stream", 7, x::stream);
        for (int h = 0; x.told(h, 0) >= 0; h++) {
            int hatch = h;
            ask(all, "told " + h, 8, what -> x.told(hatch, what));
            ask(all, "without " + h, 6, what -> x.without(hatch, what));
            for (int p = 0; x.pane(h, p, 0) >= 0; p++) {
                int pane = p;
                ask(all, "pane " + h + " " + p, 6, what -> x.pane(hatch, pane, what));
            }
        }
        for (int f = 0; f < 4; f++) {
            int farm = f;
            ask(all, "farm " + f, 4, what -> x.farm(farm, what));
        }
        int broken = x.broken(-1, 0);
        all.add("broken: " + broken);
        for (int i = 0; i < Math.min(broken, 60); i++) {
            int entry = i;
            ask(all, "broken " + i, 3, what -> x.broken(entry, what));
        }
        all.add("right was: " + x.right(0, 0, 24));
        return all;
    }

    private interface Question {
        int on(int what);
    }

    private static void ask(List<String> all, String name, int whats, Question question) {
        for (int what = 0; what < whats; what++) {
            all.add(name + " " + what + ": " + question.on(what));
        }
    }
}
