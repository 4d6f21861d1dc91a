/** Promises 1 to 8: a new object, and all that is told: what it answers, refuses and changes. */
public final class DeedsTest {
    private static final int BAD = -1;
    private static final int FULL = -3;
    private static final int LOW = Integer.MIN_VALUE;
    private static final int HIGH = Integer.MAX_VALUE;

    private static final Check check = new Check("DeedsTest");

    public static void main(String[] args) {
        newObject();
        hatch();
        hatchFullAheadOfDeeds();
        hatchFullByDeeds();
        open();
        flow();
        air();
        dig();
        sheep();
        right();
        badIsAheadOfFull();
        refusedDeedsChangeNothing();
        deedsAtTheEndOfTime();
        check.end();
    }

    private static void newObject() {
        WaterMeadows x = new WaterMeadows();
        check.due("1: hatches", x.count(0), 0);
        check.due("1: hours gone", x.count(1), 0);
        check.due("1: deeds", x.count(2), 0);
        check.due("1: flow", x.stream(0), 100);
        check.due("1: air", x.stream(1), 5);
        for (int what = 2; what <= 6; what++) {
            check.due("1: stream " + what, x.stream(what), 0);
        }
        check.due("1: nothing is broken", x.broken(-1, 0), 0);
        check.due("1: no hatch 0", x.told(0, 0), BAD);
        WaterMeadows other = new WaterMeadows();
        x.hatch(0, 10, 1);
        x.flow(7);
        x.hours(3);
        check.due("1: objects do not share hatches", other.count(0), 0);
        check.due("1: objects do not share the flow", other.stream(0), 100);
        check.due("1: objects do not share hours", other.count(1), 0);
    }

    private static void hatch() {
        WaterMeadows x = new WaterMeadows();
        int[] badFarms = {-1, 4, LOW, HIGH};
        for (int farm : badFarms) {
            check.due("2: farm " + farm, x.hatch(farm, 10, 1), BAD);
        }
        int[] badWidths = {0, -1, 201, LOW, HIGH};
        for (int width : badWidths) {
            check.due("2: width " + width, x.hatch(0, width, 1), BAD);
        }
        int[] badPanes = {0, -1, 5, LOW, HIGH};
        for (int panes : badPanes) {
            check.due("2: panes " + panes, x.hatch(0, 10, panes), BAD);
        }
        check.due("2: bad ones do not count", x.count(0), 0);
        check.due("2: bad ones are no deeds", x.count(2), 0);
        check.due("2: narrowest", x.hatch(0, 1, 1), 0);
        check.due("2: widest", x.hatch(3, 200, 4), 1);
        check.due("2: its farm", x.told(1, 0), 3);
        check.due("2: its width", x.told(1, 1), 200);
        check.due("2: its panes", x.told(1, 2), 4);
        check.due("2: it is shut", x.told(1, 3), 0);
        check.due("2: they count", x.count(0), 2);
        check.due("2: they are deeds", x.count(2), 2);
    }

    private static void hatchFullAheadOfDeeds() {
        WaterMeadows x = new WaterMeadows();
        for (int h = 0; h < 6; h++) {
            check.due("2: hatch number", x.hatch(h % 4, 20, 2), h);
        }
        check.due("2: a seventh", x.hatch(0, 20, 2), FULL);
        check.due("2: a bad seventh", x.hatch(4, 20, 2), BAD);
        check.due("2: six hatches", x.count(0), 6);
        check.due("2: six deeds", x.count(2), 6);
    }

    private static void hatchFullByDeeds() {
        WaterMeadows x = new WaterMeadows();
        fillDeeds(x);
        check.due("2: a hatch as deed 91", x.hatch(0, 20, 2), FULL);
        check.due("2: none came", x.count(0), 0);
        WaterMeadows y = new WaterMeadows();
        for (int i = 0; i < 89; i++) {
            y.flow(i);
        }
        check.due("2: a hatch as deed 90", y.hatch(0, 20, 2), 0);
        check.due("2: that was the last", y.hatch(0, 20, 2), FULL);
        check.due("2: 90 deeds", y.count(2), 90);
    }

    private static void open() {
        WaterMeadows x = new WaterMeadows();
        check.due("3: no hatch yet", x.open(0, 1), BAD);
        x.hatch(0, 10, 1);
        x.hatch(1, 10, 1);
        int[] badHatches = {-1, 2, 6, LOW, HIGH};
        for (int h : badHatches) {
            check.due("3: hatch " + h, x.open(h, 1), BAD);
        }
        int[] badQuarters = {-1, 5, LOW, HIGH};
        for (int q : badQuarters) {
            check.due("3: quarters " + q, x.open(1, q), BAD);
        }
        check.due("3: it was shut", x.open(1, 4), 0);
        check.due("3: it was open", x.open(1, 3), 4);
        check.due("3: the same again", x.open(1, 3), 3);
        check.due("3: shut", x.open(1, 0), 3);
        check.due("3: open by one", x.open(1, 1), 0);
        check.due("3: as told", x.told(1, 3), 1);
        check.due("3: the other is not", x.told(0, 3), 0);
        check.due("3: each is a deed", x.count(2), 7);
    }

    private static void flow() {
        WaterMeadows x = new WaterMeadows();
        int[] bad = {-1, 1001, LOW, HIGH};
        for (int f : bad) {
            check.due("4: flow " + f, x.flow(f), BAD);
        }
        check.due("4: what it was at first", x.flow(0), 100);
        check.due("4: what it was", x.flow(1000), 0);
        check.due("4: as told", x.stream(0), 1000);
        check.due("4: each is a deed", x.count(2), 2);
        x.hours(2);
        x.flow(30);
        check.due("4: a deed is of the hour to come", x.stream(2), 2000);
        x.hours(1);
        check.due("4: then it is brought", x.stream(2), 2030);
    }

    private static void air() {
        WaterMeadows x = new WaterMeadows();
        int[] bad = {-21, 31, LOW, HIGH};
        for (int degrees : bad) {
            check.due("5: degrees " + degrees, x.air(degrees), -100);
        }
        check.due("5: what it was at first", x.air(-20), 5);
        check.due("5: coldest", x.air(30), -20);
        check.due("5: warmest", x.air(-1), 30);
        check.due("5: below 0 is no refusal", x.air(0), -1);
        check.due("5: as told", x.stream(1), 0);
        check.due("5: each is a deed", x.count(2), 4);
        fillDeeds(x);
        check.due("5: full", x.air(1), -101);
        check.due("5: bad ahead of full", x.air(31), -100);
        check.due("5: nothing changes", x.stream(1), 0);
    }

    private static void dig() {
        WaterMeadows x = new WaterMeadows();
        check.due("6: no hatch yet", x.dig(0), BAD);
        x.hatch(0, 100, 1);
        x.hatch(0, 100, 1);
        int[] bad = {-1, 2, LOW, HIGH};
        for (int h : bad) {
            check.due("6: hatch " + h, x.dig(h), BAD);
        }
        check.due("6: clean", x.dig(0), 0);
        x.flow(1000);
        x.open(0, 4);
        x.open(1, 4);
        x.hours(21);
        // 10 hours of 100 make a silt of 10, which takes 1 from the width; 20 is reached behind the last.
        check.due("6: carried", x.told(0, 5), 10 * 100 + 11 * 99);
        check.due("6: silt", x.told(0, 4), 20);
        check.due("6: most", x.told(0, 6), 98);
        check.due("6: its silt that was", x.dig(0), 20);
        check.due("6: silt then", x.told(0, 4), 0);
        check.due("6: carried then", x.told(0, 5), 0);
        check.due("6: most then", x.told(0, 6), 100);
        check.due("6: the latest hour is as it was", x.told(0, 7), 99);
        check.due("6: the other has its silt", x.told(1, 4), 20);
        check.due("6: again", x.dig(0), 0);
        check.due("6: each is a deed", x.count(2), 8);
    }

    private static void sheep() {
        WaterMeadows x = new WaterMeadows();
        check.due("7: no hatch yet", x.sheep(0, 0, 1), BAD);
        x.hatch(0, 10, 2);
        x.hatch(0, 10, 4);
        int[] badHatches = {-1, 2, LOW, HIGH};
        for (int h : badHatches) {
            check.due("7: hatch " + h, x.sheep(h, 0, 1), BAD);
        }
        int[] badPanes = {-1, 2, 3, 4, LOW, HIGH};
        for (int p : badPanes) {
            check.due("7: pane " + p, x.sheep(0, p, 1), BAD);
        }
        int[] badSheep = {-1, 51, LOW, HIGH};
        for (int n : badSheep) {
            check.due("7: sheep " + n, x.sheep(0, 0, n), BAD);
        }
        check.due("7: none at first", x.sheep(0, 1, 50), 0);
        check.due("7: how many were", x.sheep(0, 1, 0), 50);
        check.due("7: none", x.sheep(0, 1, 7), 0);
        check.due("7: last pane", x.sheep(1, 3, 9), 0);
        check.due("7: as told", x.pane(0, 1, 4), 7);
        check.due("7: as told on the last", x.pane(1, 3, 4), 9);
        check.due("7: none beside", x.pane(0, 0, 4), 0);
        check.due("7: none above", x.pane(1, 0, 4), 0);
        check.due("7: each is a deed", x.count(2), 6);
    }

    private static void right() {
        WaterMeadows x = new WaterMeadows();
        int[] badRights = {-1, 1001, LOW, HIGH};
        for (int r : badRights) {
            check.due("8: right " + r, x.right(r, 0, 24), BAD);
        }
        int[] badFroms = {-1, 24, 25, LOW, HIGH};
        for (int f : badFroms) {
            check.due("8: from " + f, x.right(5, f, 24), BAD);
        }
        int[] badTos = {-1, 0, 25, LOW, HIGH};
        for (int t : badTos) {
            check.due("8: ahead of " + t, x.right(5, 0, t), BAD);
        }
        check.due("8: from at its end", x.right(5, 7, 7), BAD);
        check.due("8: from behind its end", x.right(5, 8, 7), BAD);
        check.due("8: none at first", x.right(1000, 0, 1), 0);
        check.due("8: what it was", x.right(0, 23, 24), 1000);
        check.due("8: 0 is a right", x.right(101, 0, 24), 0);
        check.due("8: each is a deed", x.count(2), 3);
        x.hours(2);
        check.due("8: it is broken in each hour", x.stream(6), 2);
    }

    private static void badIsAheadOfFull() {
        WaterMeadows x = new WaterMeadows();
        x.hatch(0, 10, 1);
        fillDeeds(x);
        check.due("bad hatch ahead of full", x.hatch(-1, 10, 1), BAD);
        check.due("bad open ahead of full", x.open(1, 1), BAD);
        check.due("bad quarters ahead of full", x.open(0, 5), BAD);
        check.due("bad flow ahead of full", x.flow(-1), BAD);
        check.due("bad dig ahead of full", x.dig(1), BAD);
        check.due("bad sheep ahead of full", x.sheep(0, 1, 1), BAD);
        check.due("bad right ahead of full", x.right(1, 1, 1), BAD);
        check.due("open full", x.open(0, 1), FULL);
        check.due("flow full", x.flow(1), FULL);
        check.due("dig full", x.dig(0), FULL);
        check.due("sheep full", x.sheep(0, 0, 1), FULL);
        check.due("right full", x.right(1, 0, 1), FULL);
        check.due("90 deeds", x.count(2), 90);
    }

    private static void refusedDeedsChangeNothing() {
        WaterMeadows x = new WaterMeadows();
        x.hatch(0, 100, 1);
        x.open(0, 4);
        x.hours(5);
        fillDeeds(x);
        int flowWas = x.stream(0);
        x.open(0, 1);
        x.flow(999);
        x.dig(0);
        x.sheep(0, 0, 3);
        x.right(1000, 0, 24);
        x.hatch(1, 1, 1);
        check.due("open as it was", x.told(0, 3), 4);
        check.due("flow as it was", x.stream(0), flowWas);
        check.due("silt as it was", x.told(0, 4), 5);
        check.due("sheep as they were", x.pane(0, 0, 4), 0);
        check.due("hatches as they were", x.count(0), 1);
        x.hours(1);
        check.due("no right came", x.stream(6), 0);
        check.due("hours are no deeds", x.count(2), 90);
    }

    private static void deedsAtTheEndOfTime() {
        WaterMeadows x = new WaterMeadows();
        for (int i = 0; i < 12; i++) {
            x.hours(200);
        }
        check.due("no promise refuses a deed at hour 2400", x.flow(3), 100);
        check.due("nor a hatch", x.hatch(0, 10, 1), 0);
        check.due("they count", x.count(2), 2);
    }

    private static void fillDeeds(WaterMeadows x) {
        for (int i = x.count(2); i < 90; i++) {
            x.flow(100 + i);
        }
    }
}
