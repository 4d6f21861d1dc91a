/** Promises 10 to 16: what is answered of hatches, panes, stream, broken rights, farms, without, counts. */
public final class AnswersTest {
    private static final int BAD = -1;
    private static final int NONE = -4;
    private static final int LOW = Integer.MIN_VALUE;
    private static final int HIGH = Integer.MAX_VALUE;

    private static final Check check = new Check("AnswersTest");

    public static void main(String[] args) {
        told();
        pane();
        stream();
        broken();
        brokenWithWrongNumbers();
        farm();
        withoutLeavesTheRest();
        withoutKeepsSheepAndSilt();
        withoutOfAHatchThatCameLate();
        withoutWithWrongNumbers();
        count();
        questionsChangeNothing();
        check.end();
    }

    /** 100 of water; farm 2's hatch of width 40 with 3 panes, open by 2 from hour 0 on. */
    private static WaterMeadows oneHatch() {
        WaterMeadows x = new WaterMeadows();
        x.hatch(2, 40, 3);
        x.open(0, 2);
        return x;
    }

    private static void told() {
        WaterMeadows x = oneHatch();
        int[] ahead = {2, 40, 3, 2, 0, 0, 40, 0};
        // 25 hours of 40 make a silt of 10, which takes 1 from the width.
        int[] behind = {2, 40, 3, 2, 10, 25 * 40 + 2 * 39, 39, 39};
        for (int what = 0; what < 8; what++) {
            check.due("10: ahead, what " + what, x.told(0, what), ahead[what]);
        }
        x.hours(27);
        for (int what = 0; what < 8; what++) {
            check.due("10: behind, what " + what, x.told(0, what), behind[what]);
        }
        int[] badWhats = {-1, 8, LOW, HIGH};
        for (int what : badWhats) {
            check.due("10: what " + what, x.told(0, what), BAD);
        }
        int[] badHatches = {-1, 1, 5, 6, LOW, HIGH};
        for (int h : badHatches) {
            check.due("10: hatch " + h, x.told(h, 0), BAD);
        }
        x.hatch(1, 7, 1);
        check.due("10: a new one took none", x.told(1, 7), 0);
        check.due("10: a new one has its width", x.told(1, 6), 7);
    }

    private static void pane() {
        WaterMeadows x = oneHatch();
        x.sheep(0, 2, 2);
        for (int what = 0; what < 6; what++) {
            check.due("11: ahead, what " + what, x.pane(0, 2, what), what == 4 ? 2 : 0);
        }
        x.hours(10);
        int[] last = {30 - 8, 13, 10, 30, 2, 8};
        int[] first = {30, 14, 10, 30, 0, 0};
        for (int what = 0; what < 6; what++) {
            check.due("11: last, what " + what, x.pane(0, 2, what), last[what]);
            check.due("11: first, what " + what, x.pane(0, 0, what), first[what]);
        }
        int[] badWhats = {-1, 6, LOW, HIGH};
        for (int what : badWhats) {
            check.due("11: what " + what, x.pane(0, 0, what), BAD);
        }
        int[] badPanes = {-1, 3, 4, LOW, HIGH};
        for (int p : badPanes) {
            check.due("11: pane " + p, x.pane(0, p, 0), BAD);
        }
        int[] badHatches = {-1, 1, 6, LOW, HIGH};
        for (int h : badHatches) {
            check.due("11: hatch " + h, x.pane(h, 0, 0), BAD);
        }
    }

    private static void stream() {
        WaterMeadows x = oneHatch();
        x.right(92, 1, 3);
        x.hours(4);
        int[] due = {100, 5, 400, 36, 364, 91, 2};
        for (int what = 0; what < 7; what++) {
            check.due("12: what " + what, x.stream(what), due[what]);
        }
        x.air(-4);
        check.due("12: the air now, which is no refusal", x.stream(1), -4);
        x.flow(5);
        check.due("12: the flow now", x.stream(0), 5);
        check.due("12: the latest hour is as it was", x.stream(5), 91);
        int[] bad = {-1, 7, LOW, HIGH};
        for (int what : bad) {
            check.due("12: what " + what, x.stream(what), -100);
        }
    }

    private static void broken() {
        WaterMeadows x = oneHatch();
        check.due("13: none yet", x.broken(0, 0), NONE);
        x.hours(2);
        check.due("13: how many", x.broken(-1, 0), 2);
        check.due("13: hour of the second", x.broken(1, 0), 1);
        check.due("13: sort of the second", x.broken(1, 1), 1);
        check.due("13: hatch of the second", x.broken(1, 2), 0);
        check.due("13: no third", x.broken(2, 0), NONE);
        check.due("13: no last", x.broken(HIGH, 2), NONE);
        x.hours(46);
        check.due("13: all are counted", x.broken(-1, 0), 48);
        x.hours(24);
        check.due("13: none on the farm's day", x.broken(-1, 0), 48);
        x.hours(24);
        check.due("13: all are counted on", x.broken(-1, 0), 72);
        check.due("13: the last that is kept", x.broken(59, 0), 72 + 11);
        check.due("13: the next is not", x.broken(60, 0), NONE);
        check.due("13: nor the last of all", x.broken(71, 0), NONE);
    }

    private static void brokenWithWrongNumbers() {
        WaterMeadows x = oneHatch();
        x.hours(2);
        check.due("13: -1 with what 1", x.broken(-1, 1), BAD);
        check.due("13: -1 with what 2", x.broken(-1, 2), BAD);
        check.due("13: -2", x.broken(-2, 0), BAD);
        check.due("13: lowest", x.broken(LOW, 0), BAD);
        int[] badWhats = {-1, 3, LOW, HIGH};
        for (int what : badWhats) {
            check.due("13: what " + what, x.broken(0, what), BAD);
            check.due("13: -1 with what " + what, x.broken(-1, what), BAD);
        }
    }

    private static void farm() {
        WaterMeadows x = new WaterMeadows();
        x.hatch(2, 40, 3);
        x.hatch(1, 40, 1);
        x.hatch(2, 40, 2);
        x.open(0, 4);
        x.open(2, 1);
        x.sheep(0, 1, 1);
        x.sheep(2, 1, 2);
        x.sheep(1, 0, 4);
        x.hours(7);
        check.due("14: grass", x.farm(2, 0), 5 * 21 - 3);
        check.due("14: eaten", x.farm(2, 1), 3);
        check.due("14: wet hours", x.farm(2, 2), 35);
        check.due("14: turns", x.farm(2, 3), 14);
        check.due("14: grass of the other", x.farm(1, 0), 17);
        check.due("14: eaten on the other", x.farm(1, 1), 4);
        check.due("14: wet hours of the other", x.farm(1, 2), 0);
        check.due("14: turns of the other", x.farm(1, 3), 0);
        for (int what = 0; what < 4; what++) {
            check.due("14: a farm without a hatch", x.farm(3, what), 0);
        }
        int[] bad = {-1, 4, LOW, HIGH};
        for (int wrong : bad) {
            check.due("14: farm " + wrong, x.farm(wrong, 0), BAD);
            check.due("14: what " + wrong, x.farm(2, wrong), BAD);
        }
    }

    private static void withoutLeavesTheRest() {
        WaterMeadows x = new WaterMeadows();
        x.hatch(0, 20, 2);
        x.hatch(1, 20, 2);
        x.air(0);
        x.flow(8);
        x.open(0, 4);
        x.open(1, 4);
        x.right(1, 0, 24);
        x.hours(10);
        // As it is the first drinks 6 of 8 and the second 2; without the first the second drinks 6.
        check.due("15: no mill water as it is", x.stream(4), 0);
        check.due("15: mill broken as it is", x.stream(6), 10);
        check.due("15: without the first, mill", x.without(0, 0), 20);
        check.due("15: without the first, right", x.without(0, 1), 0);
        check.due("15: without the first, farm 0", x.without(0, 2), 0);
        check.due("15: without the first, farm 1", x.without(0, 3), 40);
        check.due("15: without the second, mill", x.without(1, 0), 20);
        check.due("15: without the second, farm 0", x.without(1, 2), 40);
        check.due("15: without the second, farm 1", x.without(1, 3), 0);
        check.due("15: farm 2 has none", x.without(1, 4), 0);
        check.due("15: farm 3 has none", x.without(1, 5), 0);
        x.right(3, 0, 24);
        x.hours(1);
        check.due("15: a right broken without it too", x.without(0, 1), 1);
    }

    private static void withoutKeepsSheepAndSilt() {
        WaterMeadows x = new WaterMeadows();
        x.hatch(0, 100, 1);
        x.hatch(1, 100, 1);
        x.sheep(0, 0, 1);
        x.flow(100);
        x.open(0, 4);
        x.open(1, 4);
        x.hours(20);
        // Carried 100 then 97 an hour: without the first the second carries more and silts more.
        check.due("15: sheep eat without it too", x.without(0, 2), 20 * 3 - 12);
        x.dig(1);
        x.air(0);
        x.open(0, 0);
        x.hours(10);
        check.due("15: carried since dug", x.told(1, 5), 1000);
        check.due("15: mill without the first", x.without(0, 0), 30 * 97);
        check.due("15: mill as it is", x.stream(4), 20 * 94 + 10 * 97);
        check.due("15: mill without the second", x.without(1, 0), 20 * 97 + 10 * 100);
        WaterMeadows y = new WaterMeadows();
        y.hatch(0, 50, 1);
        y.hatch(1, 1, 1);
        y.flow(50);
        y.open(0, 4);
        y.open(1, 1);
        y.air(-1);
        // 1000 carried would shut a width of 1, were it not dug ahead of that.
        for (int i = 0; i < 12; i++) {
            y.hours(100);
            y.dig(1);
        }
        check.due("15: dug without the other too", y.without(0, 3), 2400);
        check.due("15: which takes 1 each hour", y.without(0, 0), 1200 * 49);
    }

    private static void withoutOfAHatchThatCameLate() {
        WaterMeadows x = new WaterMeadows();
        x.hours(10);
        x.hatch(0, 10, 1);
        check.due("15: what came to the mill ahead of it", x.without(0, 0), 1000);
        x.open(0, 4);
        x.hours(1);
        check.due("15: and then", x.without(0, 0), 1100);
        check.due("15: as it is", x.stream(4), 1097);
        check.due("15: its grass counts from then", x.without(0, 2), 3);
        x.open(0, 0);
        x.hours(1);
        check.due("15: a shut one again", x.stream(4), 1197);
        check.due("15: makes no more difference", x.without(0, 0), 1200);
    }

    private static void withoutWithWrongNumbers() {
        WaterMeadows x = oneHatch();
        int[] badWhats = {-1, 6, LOW, HIGH};
        for (int what : badWhats) {
            check.due("15: what " + what, x.without(0, what), BAD);
        }
        int[] badHatches = {-1, 1, 5, 6, LOW, HIGH};
        for (int h : badHatches) {
            check.due("15: hatch " + h, x.without(h, 0), BAD);
        }
    }

    private static void count() {
        WaterMeadows x = oneHatch();
        x.hours(3);
        x.flow(9);
        check.due("16: hatches", x.count(0), 1);
        check.due("16: hours", x.count(1), 3);
        check.due("16: deeds", x.count(2), 3);
        int[] bad = {-1, 3, LOW, HIGH};
        for (int what : bad) {
            check.due("16: what " + what, x.count(what), BAD);
        }
    }

    private static void questionsChangeNothing() {
        WaterMeadows x = oneHatch();
        x.hours(5);
        for (int i = 0; i < 3; i++) {
            check.due("told twice", x.told(0, 5), 200);
            check.due("pane twice", x.pane(0, 0, 0), 15);
            check.due("without twice", x.without(0, 0), 500);
            check.due("farm twice", x.farm(2, 0), 45);
            check.due("broken twice", x.broken(4, 0), 4);
            check.due("deeds twice", x.count(2), 2);
            check.due("hours twice", x.count(1), 5);
        }
    }
}
