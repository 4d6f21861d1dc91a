/**
 * Promises 2 to 16 at their edges: for each range the numbers just inside are taken, those just
 * outside are refused, and a refused call changes nothing.
 */
public final class RefusalsTest {
    private static final int BAD = -1;
    private static final int FULL = -3;
    private static final int NONE = -4;
    private static final int BAD_DEGREES = -100;
    private static final int FULL_DEGREES = -101;
    private static final int LOW = Integer.MIN_VALUE;
    private static final int HIGH = Integer.MAX_VALUE;

    private static final Check check = new Check("RefusalsTest");

    private interface NumberCall {
        int on(WaterMeadows x, int number);
    }

    public static void main(String[] args) {
        hatchFarm();
        hatchWidth();
        hatchPanes();
        hatchesAreSix();
        openOfAHatch();
        openQuarters();
        flow();
        air();
        dig();
        sheepOfAPane();
        sheepNumber();
        rightR();
        rightFromAndAheadOf();
        rightFromBelowAheadOf();
        deedsAreNinety();
        digAsThe91stLeavesAllSilt();
        sixHatchesAndNinetyDeeds();
        refusedCallsAreNoDeeds();
        badIsAheadOfFull();
        hoursOneToTwoHundred();
        hoursBeyondTheEnd();
        hoursAreNoDeeds();
        told();
        pane();
        stream();
        broken();
        brokenSixty();
        farm();
        without();
        count();
        fiveHundredAndTwelveCalls();
        check.end();
    }

    /** Two hatches of 3 and 2 panes after 10 hours, with sheep, silt, grass, and rights of both sorts broken. */
    private static void meadow(WaterMeadows x) {
        x.hatch(1, 40, 3);
        x.hatch(0, 30, 2);
        x.open(0, 2);
        x.open(1, 4);
        x.sheep(0, 1, 2);
        x.right(90, 3, 9);
        x.hours(10);
    }

    private static void empty(WaterMeadows x) {
    }

    private static void fillDeeds(WaterMeadows x, int upTo) {
        for (int i = x.count(2); i < upTo; i++) {
            x.flow(100);
        }
    }

    private static void goTo(WaterMeadows x, int hour) {
        int left = hour - x.count(1);
        while (left > 0) {
            int n = Math.min(left, 200);
            x.hours(n);
            left -= n;
        }
    }

    private static void refused(String what, Twins.Story ahead, NumberCall call, int want, int... numbers) {
        for (int number : numbers) {
            Twins.refused(check, what + " " + number, ahead, x -> call.on(x, number), want);
        }
    }

    private static void hatchFarm() {
        refused("2: FARM", RefusalsTest::meadow, (x, n) -> x.hatch(n, 10, 1), BAD, -1, 4, LOW, HIGH);
        for (int farm = 0; farm <= 3; farm++) {
            WaterMeadows x = new WaterMeadows();
            check.due("2: a hatch of FARM " + farm, x.hatch(farm, 10, 1), 0);
            check.due("2: it is FARM " + farm + "'s", x.told(0, 0), farm);
        }
    }

    private static void hatchWidth() {
        refused("2: WIDTH", RefusalsTest::meadow, (x, n) -> x.hatch(0, n, 1), BAD, 0, 201, -1, LOW, HIGH);
        int[] inside = {1, 2, 199, 200};
        for (int width : inside) {
            WaterMeadows x = new WaterMeadows();
            check.due("2: a hatch of WIDTH " + width, x.hatch(0, width, 1), 0);
            check.due("2: its WIDTH " + width, x.told(0, 1), width);
            x.flow(1000);
            x.open(0, 4);
            x.hours(1);
            check.due("2: so much goes in at WIDTH " + width, x.told(0, 7), width);
        }
    }

    private static void hatchPanes() {
        refused("2: PANES", RefusalsTest::meadow, (x, n) -> x.hatch(0, 10, n), BAD, 0, 5, -1, LOW, HIGH);
        for (int panes = 1; panes <= 4; panes++) {
            WaterMeadows x = new WaterMeadows();
            check.due("2: a hatch of PANES " + panes, x.hatch(0, 10, panes), 0);
            check.due("2: its PANES " + panes, x.told(0, 2), panes);
            check.due("2: the last of PANES " + panes, x.pane(0, panes - 1, 0), 0);
            check.due("2: none behind the last of PANES " + panes, x.pane(0, panes, 0), BAD);
        }
    }

    private static void hatchesAreSix() {
        WaterMeadows x = new WaterMeadows();
        for (int h = 0; h < 6; h++) {
            check.due("2: no HATCH " + h + " yet", x.told(h, 0), BAD);
            check.due("2: HATCH " + h, x.hatch(3 - h % 4, 10 + h, 1), h);
            check.due("2: HATCH " + h + " is its own", x.told(h, 1), 10 + h);
        }
        Twins.refused(check, "2: a seventh", RefusalsTest::sixHatches, y -> y.hatch(0, 10, 1), FULL);
        Twins.refused(check, "2: a seventh of a bad FARM", RefusalsTest::sixHatches, y -> y.hatch(4, 10, 1), BAD);
        Twins.refused(check, "2: a seventh of a bad WIDTH", RefusalsTest::sixHatches, y -> y.hatch(0, 201, 1), BAD);
        Twins.refused(check, "2: a seventh of bad PANES", RefusalsTest::sixHatches, y -> y.hatch(0, 10, 0), BAD);
    }

    private static void sixHatches(WaterMeadows x) {
        for (int h = 0; h < 6; h++) {
            x.hatch(h % 4, 10 + h, 1);
            x.open(h, 1);
        }
        x.hours(2);
    }

    private static void openOfAHatch() {
        refused("3: no HATCH at all,", RefusalsTest::empty, (x, n) -> x.open(n, 1), BAD, 0, -1, LOW, HIGH);
        refused("3: HATCH", RefusalsTest::meadow, (x, n) -> x.open(n, 1), BAD, -1, 2, 5, 6, LOW, HIGH);
        WaterMeadows x = new WaterMeadows();
        meadow(x);
        check.due("3: the first HATCH", x.open(0, 1), 2);
        check.due("3: the last HATCH", x.open(1, 1), 4);
        sixHatches(x = new WaterMeadows());
        check.due("3: HATCH 5", x.open(5, 2), 1);
        check.due("3: HATCH 5 is OPEN so", x.told(5, 3), 2);
        check.due("3: HATCH 4 is as it was", x.told(4, 3), 1);
    }

    private static void openQuarters() {
        refused("3: quarters", RefusalsTest::meadow, (x, n) -> x.open(1, n), BAD, -1, 5, LOW, HIGH);
        WaterMeadows x = new WaterMeadows();
        x.hatch(0, 10, 1);
        int was = 0;
        for (int quarters = 4; quarters >= 0; quarters--) {
            check.due("3: OPEN by " + quarters, x.open(0, quarters), was);
            check.due("3: it is OPEN by " + quarters, x.told(0, 3), quarters);
            was = quarters;
        }
    }

    private static void flow() {
        refused("4: FLOW", RefusalsTest::meadow, (x, n) -> x.flow(n), BAD, -1, 1001, LOW, HIGH);
        int[] inside = {0, 1, 999, 1000};
        int was = 100;
        WaterMeadows x = new WaterMeadows();
        for (int f : inside) {
            int brought = x.stream(2);
            check.due("4: FLOW " + f, x.flow(f), was);
            check.due("4: it is " + f, x.stream(0), f);
            x.hours(1);
            check.due("4: it brings " + f, x.stream(2) - brought, f);
            was = f;
        }
    }

    private static void air() {
        refused("5: AIR", RefusalsTest::meadow, (x, n) -> x.air(n), BAD_DEGREES, -21, 31, -100, -101, LOW, HIGH);
        int[] inside = {-20, -19, -4, -3, -2, -1, 0, 29, 30};
        int was = 5;
        WaterMeadows x = new WaterMeadows();
        for (int degrees : inside) {
            check.due("5: AIR " + degrees, x.air(degrees), was);
            check.due("5: it is " + degrees, x.stream(1), degrees);
            was = degrees;
        }
    }

    private static void dig() {
        refused("6: no HATCH at all,", RefusalsTest::empty, (x, n) -> x.dig(n), BAD, 0, -1, LOW, HIGH);
        refused("6: HATCH", RefusalsTest::meadow, (x, n) -> x.dig(n), BAD, -1, 2, 5, 6, LOW, HIGH);
        WaterMeadows x = new WaterMeadows();
        meadow(x);
        check.due("6: the first HATCH", x.dig(0), 4);
        check.due("6: the last HATCH is not dug by that", x.told(1, 5), 300);
        check.due("6: the last HATCH", x.dig(1), 3);
        check.due("6: dug already", x.dig(1), 0);
    }

    private static void sheepOfAPane() {
        refused("7: no HATCH at all,", RefusalsTest::empty, (x, n) -> x.sheep(n, 0, 1), BAD, 0, -1, LOW, HIGH);
        refused("7: HATCH", RefusalsTest::meadow, (x, n) -> x.sheep(n, 0, 1), BAD, -1, 2, 5, 6, LOW, HIGH);
        refused("7: PANE of 3", RefusalsTest::meadow, (x, n) -> x.sheep(0, n, 1), BAD, -1, 3, 4, LOW, HIGH);
        refused("7: PANE of 2", RefusalsTest::meadow, (x, n) -> x.sheep(1, n, 1), BAD, -1, 2, 3, 4, LOW, HIGH);
        WaterMeadows x = new WaterMeadows();
        meadow(x);
        check.due("7: the first PANE", x.sheep(0, 0, 7), 0);
        check.due("7: one with SHEEP", x.sheep(0, 1, 8), 2);
        check.due("7: the last PANE of 3", x.sheep(0, 2, 9), 0);
        check.due("7: the last PANE of all", x.sheep(1, 1, 10), 0);
        check.due("7: as told on the first", x.pane(0, 0, 4), 7);
        check.due("7: as told on the second", x.pane(0, 1, 4), 8);
        check.due("7: as told on the third", x.pane(0, 2, 4), 9);
        check.due("7: none on the next HATCH's first", x.pane(1, 0, 4), 0);
        check.due("7: as told on the last", x.pane(1, 1, 4), 10);
    }

    private static void sheepNumber() {
        refused("7: SHEEP", RefusalsTest::meadow, (x, n) -> x.sheep(0, 1, n), BAD, -1, 51, LOW, HIGH);
        int[] inside = {0, 1, 49, 50, 0};
        int was = 2;
        WaterMeadows x = new WaterMeadows();
        meadow(x);
        for (int n : inside) {
            check.due("7: SHEEP " + n, x.sheep(0, 1, n), was);
            check.due("7: they are " + n, x.pane(0, 1, 4), n);
            was = n;
        }
    }

    private static void rightR() {
        refused("8: r", RefusalsTest::meadow, (x, n) -> x.right(n, 0, 24), BAD, -1, 1001, LOW, HIGH);
        int[] inside = {0, 1, 999, 1000, 0};
        int was = 90;
        WaterMeadows x = new WaterMeadows();
        meadow(x);
        for (int r : inside) {
            check.due("8: r " + r, x.right(r, 0, 24), was);
            was = r;
        }
    }

    private static void rightFromAndAheadOf() {
        refused("8: f", RefusalsTest::meadow, (x, n) -> x.right(50, n, 24), BAD, -1, 24, 25, LOW, HIGH);
        refused("8: t", RefusalsTest::meadow, (x, n) -> x.right(50, 0, n), BAD, -1, 0, 25, LOW, HIGH);
        int[][] inside = {{0, 1, 1}, {0, 24, 24}, {23, 24, 1}, {1, 23, 22}, {11, 13, 2}};
        for (int[] ft : inside) {
            WaterMeadows x = new WaterMeadows();
            String what = "8: from " + ft[0] + " on, ahead of " + ft[1];
            check.due(what, x.right(101, ft[0], ft[1]), 0);
            x.hours(24);
            check.due(what + ": HOURS of a DAY", x.stream(6), ft[2]);
            check.due(what + ": the first", x.broken(0, 0), ft[0]);
            check.due(what + ": the last", x.broken(ft[2] - 1, 0), ft[1] - 1);
        }
    }

    private static void rightFromBelowAheadOf() {
        for (int f = 0; f <= 24; f++) {
            int from = f;
            Twins.refused(check, "8: from " + f + " on, ahead of the same", RefusalsTest::meadow, x -> x.right(50, from, from), BAD);
            WaterMeadows x = new WaterMeadows();
            check.due("8: from " + f + " on, ahead of the next", x.right(50, f, f + 1), f < 24 ? 0 : BAD);
            check.due("8: from " + f + " on, ahead of the one before", x.right(50, f, f - 1), BAD);
        }
    }

    /** For each sort of deed: the 90th is taken, the 91st is not. */
    private static void deedsAreNinety() {
        ninety("2: hatch", x -> x.hatch(2, 20, 2), 2, FULL);
        ninety("3: open", x -> x.open(1, 1), 4, FULL);
        ninety("4: flow", x -> x.flow(55), 100, FULL);
        ninety("5: air", x -> x.air(-7), 5, FULL_DEGREES);
        ninety("6: dig", x -> x.dig(0), 4, FULL);
        ninety("7: sheep", x -> x.sheep(0, 1, 9), 2, FULL);
        ninety("8: right", x -> x.right(60, 0, 24), 90, FULL);
    }

    private static void ninety(String what, Twins.Call deed, int taken, int full) {
        WaterMeadows x = new WaterMeadows();
        meadow(x);
        fillDeeds(x, 89);
        check.due(what + " as the 90th", deed.on(x), taken);
        check.due(what + " was the 90th", x.count(2), 90);
        check.due(what + " behind it", deed.on(x), full);
        check.due(what + " is none behind it", x.count(2), 90);
        Twins.refused(check, what + " as the 91st", RefusalsTest::meadowWithAllDeeds, deed, full);
    }

    private static void meadowWithAllDeeds(WaterMeadows x) {
        meadow(x);
        fillDeeds(x, 90);
    }

    /** Both carriers are shut by silt, as it is and without the other: one that were dug would take again. */
    private static void digAsThe91stLeavesAllSilt() {
        Twins.Story silted = x -> {
            for (int h = 0; h < 2; h++) {
                x.hatch(h, 1, 1);
                x.open(h, 4);
            }
            goTo(x, 1001);
            check.due("6: silted at 90 DEEDS", x.told(0, 6) + x.told(1, 6), 0);
            fillDeeds(x, 90);
        };
        refused("6: dig as the 91st, of a silted HATCH", silted, (x, n) -> x.dig(n), FULL, 0, 1);
    }

    private static void sixHatchesAndNinetyDeeds() {
        Twins.refused(check, "2: a seventh as the 91st", x -> {
            sixHatches(x);
            fillDeeds(x, 90);
        }, x -> x.hatch(0, 10, 1), FULL);
        WaterMeadows x = new WaterMeadows();
        for (int h = 0; h < 5; h++) {
            x.hatch(0, 10, 1);
        }
        fillDeeds(x, 89);
        check.due("2: a sixth as the 90th", x.hatch(0, 10, 1), 5);
        check.due("2: they are six", x.count(0), 6);
        check.due("2: no more", x.hatch(0, 10, 1), FULL);
    }

    private static void refusedCallsAreNoDeeds() {
        WaterMeadows x = new WaterMeadows();
        meadow(x);
        fillDeeds(x, 89);
        int[] refusals = {x.hatch(4, 1, 1), x.open(2, 1), x.flow(1001), x.dig(2), x.sheep(0, 3, 1), x.right(1, 1, 1), x.hours(0)};
        for (int answer : refusals) {
            check.due("refused at 89 DEEDS", answer, BAD);
        }
        check.due("air refused at 89 DEEDS", x.air(31), BAD_DEGREES);
        check.due("89 DEEDS still", x.count(2), 89);
        check.due("so there is room for one", x.flow(1), 100);
    }

    private static void badIsAheadOfFull() {
        badAtNinety("2: FARM", x -> x.hatch(4, 10, 1), BAD);
        badAtNinety("2: WIDTH", x -> x.hatch(0, 0, 1), BAD);
        badAtNinety("2: PANES", x -> x.hatch(0, 10, 5), BAD);
        badAtNinety("3: HATCH", x -> x.open(2, 1), BAD);
        badAtNinety("3: quarters", x -> x.open(0, 5), BAD);
        badAtNinety("4: FLOW", x -> x.flow(1001), BAD);
        badAtNinety("5: AIR", x -> x.air(-21), BAD_DEGREES);
        badAtNinety("6: HATCH", x -> x.dig(2), BAD);
        badAtNinety("7: HATCH", x -> x.sheep(2, 0, 1), BAD);
        badAtNinety("7: PANE", x -> x.sheep(1, 2, 1), BAD);
        badAtNinety("7: SHEEP", x -> x.sheep(0, 0, 51), BAD);
        badAtNinety("8: r", x -> x.right(1001, 0, 24), BAD);
        badAtNinety("8: f", x -> x.right(1, -1, 24), BAD);
        badAtNinety("8: t", x -> x.right(1, 0, 25), BAD);
        badAtNinety("8: f at t", x -> x.right(1, 9, 9), BAD);
    }

    private static void badAtNinety(String what, Twins.Call call, int want) {
        Twins.refused(check, what + ": BAD is ahead of FULL,", RefusalsTest::meadowWithAllDeeds, call, want);
    }

    private static void hoursOneToTwoHundred() {
        refused("9: n", RefusalsTest::meadow, (x, n) -> x.hours(n), BAD, 0, 201, -1, LOW, HIGH);
        int[] inside = {1, 2, 199, 200};
        for (int n : inside) {
            WaterMeadows x = new WaterMeadows();
            check.due("9: n " + n, x.hours(n), n);
            check.due("9: gone by n " + n, x.count(1), n);
            check.due("9: brought in n " + n, x.stream(2), 100 * n);
            check.due("9: and on from n " + n, x.hours(1), n + 1);
        }
    }

    private static void hoursBeyondTheEnd() {
        int[][] tooMany = {{2400, 1}, {2400, 200}, {2399, 2}, {2399, 200}, {2201, 200}, {2300, 101}};
        for (int[] row : tooMany) {
            String what = "9: at HOUR " + row[0] + " n " + row[1];
            WaterMeadows x = new WaterMeadows();
            x.hatch(1, 10, 1);
            x.open(0, 4);
            goTo(x, row[0]);
            int drunk = x.stream(3);
            int broken = x.broken(-1, 0);
            check.due(what, x.hours(row[1]), FULL);
            check.due(what + ": HOURS as they were", x.count(1), row[0]);
            check.due(what + ": nothing more is brought", x.stream(2), 100 * row[0]);
            check.due(what + ": nothing more is drunk", x.stream(3), drunk);
            check.due(what + ": nothing more is BROKEN", x.broken(-1, 0), broken);
            check.due(what + ": nor brought WITHOUT", x.without(0, 0), 100 * row[0]);
            check.due(what + ": BAD is ahead of FULL", x.hours(201), BAD);
            check.due(what + ": BAD is ahead of FULL below", x.hours(0), BAD);
            if (row[0] < 2400) {
                check.due(what + ": the rest goes by", x.hours(2400 - row[0]), 2400);
                check.due(what + ": all is brought then", x.stream(2), 240000);
            }
        }
        WaterMeadows y = new WaterMeadows();
        goTo(y, 2200);
        check.due("9: at HOUR 2200 n 200", y.hours(200), 2400);
    }

    private static void hoursAreNoDeeds() {
        WaterMeadows x = new WaterMeadows();
        meadowWithAllDeeds(x);
        check.due("9: HOURS at 90 DEEDS", x.hours(200), 210);
        check.due("9: DEEDS by HOURS", x.count(2), 90);
    }

    private static void told() {
        refused("10: no HATCH at all,", RefusalsTest::empty, (x, n) -> x.told(n, 0), BAD, 0, -1, LOW, HIGH);
        refused("10: HATCH", RefusalsTest::meadow, (x, n) -> x.told(n, 0), BAD, -1, 2, 5, 6, LOW, HIGH);
        refused("10: what", RefusalsTest::meadow, (x, n) -> x.told(1, n), BAD, -1, 8, LOW, HIGH);
        WaterMeadows x = new WaterMeadows();
        meadow(x);
        int[][] due = {{1, 40, 3, 2, 4, 400, 40, 40}, {0, 30, 2, 4, 3, 300, 30, 30}};
        for (int h = 0; h < 2; h++) {
            for (int what = 0; what < 8; what++) {
                check.due("10: of HATCH " + h + " what " + what, x.told(h, what), due[h][what]);
            }
        }
    }

    private static void pane() {
        refused("11: no HATCH at all,", RefusalsTest::empty, (x, n) -> x.pane(n, 0, 0), BAD, 0, -1, LOW, HIGH);
        refused("11: HATCH", RefusalsTest::meadow, (x, n) -> x.pane(n, 0, 0), BAD, -1, 2, 5, 6, LOW, HIGH);
        refused("11: PANE of 3", RefusalsTest::meadow, (x, n) -> x.pane(0, n, 0), BAD, -1, 3, 4, LOW, HIGH);
        refused("11: PANE of 2", RefusalsTest::meadow, (x, n) -> x.pane(1, n, 0), BAD, -1, 2, 3, 4, LOW, HIGH);
        refused("11: what", RefusalsTest::meadow, (x, n) -> x.pane(0, 1, n), BAD, -1, 6, LOW, HIGH);
        WaterMeadows x = new WaterMeadows();
        meadow(x);
        int[][] due = {{30, 14, 10, 30, 0, 0}, {22, 13, 10, 30, 2, 8}, {30, 13, 10, 30, 0, 0}};
        for (int p = 0; p < 3; p++) {
            for (int what = 0; what < 6; what++) {
                check.due("11: of PANE " + p + " what " + what, x.pane(0, p, what), due[p][what]);
            }
        }
        check.due("11: the last PANE of the last HATCH", x.pane(1, 1, 1), 15);
    }

    private static void stream() {
        refused("12: what", RefusalsTest::meadow, (x, n) -> x.stream(n), BAD_DEGREES, -1, 7, LOW, HIGH);
        WaterMeadows x = new WaterMeadows();
        meadow(x);
        // 5 panes drink 3 each hour; 85 come to the mill, short of 90 from hour 3 on, ahead of 9.
        int[] due = {100, 5, 1000, 150, 850, 85, 6};
        for (int what = 0; what < 7; what++) {
            check.due("12: what " + what, x.stream(what), due[what]);
        }
    }

    private static void broken() {
        refused("13: i", RefusalsTest::meadow, (x, n) -> x.broken(n, 0), BAD, -2, LOW);
        refused("13: i -1 with what", RefusalsTest::meadow, (x, n) -> x.broken(-1, n), BAD, 1, 2, 3, -1, LOW, HIGH);
        refused("13: what", RefusalsTest::meadow, (x, n) -> x.broken(0, n), BAD, -1, 3, LOW, HIGH);
        // Both fit here; the Terms tell BAD first.
        refused("13: none has the number, and what", RefusalsTest::meadow, (x, n) -> x.broken(16, n), BAD, -1, 3, LOW, HIGH);
        refused("13: none has number", RefusalsTest::meadow, (x, n) -> x.broken(n, 0), NONE, 16, 17, 59, 60, HIGH);
        refused("13: none at all has number", RefusalsTest::empty, (x, n) -> x.broken(n, 2), NONE, 0, 1, 60, HIGH);
        WaterMeadows x = new WaterMeadows();
        meadow(x);
        // A turn of hatch 0 in each of 10 hours, and the mill in the 6 from hour 3 on.
        check.due("13: how many", x.broken(-1, 0), 16);
        int[][] due = {{0, 0, 1, 0}, {2, 2, 1, 0}, {3, 3, 1, 0}, {4, 3, 2, 1}, {14, 8, 2, 1}, {15, 9, 1, 0}};
        for (int[] row : due) {
            for (int what = 0; what < 3; what++) {
                check.due("13: BROKEN " + row[0] + " what " + what, x.broken(row[0], what), row[1 + what]);
            }
        }
    }

    /** A turn each hour but on every fourth day: 60 are reached by the turn of hour 83. */
    private static void turnsUpTo(WaterMeadows x, int hour) {
        x.hatch(2, 10, 1);
        x.open(0, 4);
        goTo(x, hour);
    }

    private static void brokenSixty() {
        int[][] due = {{83, 59, NONE, NONE}, {84, 60, 83, NONE}, {85, 61, 83, NONE}, {96, 72, 83, NONE}};
        for (int[] row : due) {
            WaterMeadows x = new WaterMeadows();
            turnsUpTo(x, row[0]);
            check.due("13: all by HOUR " + row[0], x.broken(-1, 0), row[1]);
            check.due("13: all TURNS by HOUR " + row[0], x.farm(2, 3), row[1]);
            check.due("13: the 59th by HOUR " + row[0], x.broken(58, 0), 82);
            for (int what = 0; what < 3; what++) {
                boolean kept = row[2] != NONE;
                int[] sixtieth = {83, 1, 0};
                check.due("13: the 60th by HOUR " + row[0] + " what " + what, x.broken(59, what), kept ? sixtieth[what] : NONE);
                check.due("13: the 61st by HOUR " + row[0] + " what " + what, x.broken(60, what), row[3]);
            }
        }
        millIsTheSixtieth();
    }

    /** 59 turns first; then an hour of a turn and the mill, or of the mill alone. */
    private static void millIsTheSixtieth() {
        WaterMeadows x = new WaterMeadows();
        turnsUpTo(x, 83);
        x.right(1000, 0, 24);
        x.hours(1);
        check.due("13: a turn and the mill make 61", x.broken(-1, 0), 61);
        check.due("13: the turn is kept", x.broken(59, 1), 1);
        check.due("13: the mill is not", x.broken(60, 1), NONE);
        check.due("13: it is counted", x.stream(6), 1);
        WaterMeadows y = new WaterMeadows();
        turnsUpTo(y, 83);
        y.right(1000, 0, 24);
        y.air(-1);
        y.hours(1);
        check.due("13: the mill alone makes 60", y.broken(-1, 0), 60);
        check.due("13: it is kept", y.broken(59, 1), 2);
        check.due("13: with its GUILTY", y.broken(59, 2), 1);
        y.hours(1);
        check.due("13: 61 then", y.broken(-1, 0), 61);
        check.due("13: the 60th stays", y.broken(59, 0), 83);
        check.due("13: no 61st", y.broken(60, 0), NONE);
    }

    private static void farm() {
        refused("14: FARM", RefusalsTest::meadow, (x, n) -> x.farm(n, 0), BAD, -1, 4, LOW, HIGH);
        refused("14: what", RefusalsTest::meadow, (x, n) -> x.farm(0, n), BAD, -1, 4, LOW, HIGH);
        WaterMeadows x = new WaterMeadows();
        int[][] none = new int[4][4];
        checkFarms(x, "with no HATCH", none);
        meadow(x);
        int[][] due = {{60, 0, 20, 0}, {82, 8, 30, 10}, {0, 0, 0, 0}, {0, 0, 0, 0}};
        checkFarms(x, "after 10 HOURS", due);
        x.hatch(3, 10, 1);
        x.hatch(1, 10, 1);
        x.hours(1);
        int[][] more = {{66, 0, 22, 0}, {92, 10, 33, 11}, {0, 0, 0, 0}, {3, 0, 0, 0}};
        checkFarms(x, "with two that came", more);
        WaterMeadows all = new WaterMeadows();
        for (int h = 0; h < 6; h++) {
            all.hatch(h % 4, 200, 4);
            all.open(h, 4);
            all.sheep(h, 3, 1);
        }
        all.hours(7);
        // Farms 0 and 1 have two hatches each; all are wet, and 4 panes grow by 3 in each of 7 hours.
        int[][] full = {{166, 2, 56, 0}, {166, 2, 56, 14}, {83, 1, 28, 7}, {83, 1, 28, 7}};
        checkFarms(all, "with all HATCHES and PANES", full);
        for (int h = 0; h < 6; h++) {
            for (int farm = 0; farm < 4; farm++) {
                check.due("15: all HATCHES and PANES WITHOUT " + h + " FARM " + farm, all.without(h, 2 + farm), full[farm][0]);
            }
        }
    }

    private static void checkFarms(WaterMeadows x, String when, int[][] due) {
        for (int farm = 0; farm < 4; farm++) {
            for (int what = 0; what < 4; what++) {
                check.due("14: FARM " + farm + " what " + what + " " + when, x.farm(farm, what), due[farm][what]);
            }
        }
    }

    private static void without() {
        refused("15: no HATCH at all,", RefusalsTest::empty, (x, n) -> x.without(n, 0), BAD, 0, -1, LOW, HIGH);
        refused("15: HATCH", RefusalsTest::meadow, (x, n) -> x.without(n, 0), BAD, -1, 2, 5, 6, LOW, HIGH);
        refused("15: what", RefusalsTest::meadow, (x, n) -> x.without(0, n), BAD, -1, 6, LOW, HIGH);
        WaterMeadows x = new WaterMeadows();
        meadow(x);
        // Grass grows by 3 each hour, wet or dry; 94 or 91 come to the mill, which is due 90.
        int[][] due = {{940, 0, 60, 82, 0, 0}, {910, 0, 60, 82, 0, 0}};
        for (int h = 0; h < 2; h++) {
            for (int what = 0; what < 6; what++) {
                check.due("15: WITHOUT " + h + " what " + what, x.without(h, what), due[h][what]);
            }
        }
        WaterMeadows y = new WaterMeadows();
        sixHatches(y);
        // Each of the six takes 10 to 15 and drinks 3 of it: 82 come to the mill in an hour.
        check.due("15: as it is with six", y.stream(4), 2 * 82);
        for (int h = 0; h < 6; h++) {
            check.due("15: of six WITHOUT " + h, y.without(h, 0), 2 * 85);
        }
    }

    private static void count() {
        refused("16: what", RefusalsTest::meadow, (x, n) -> x.count(n), BAD, -1, 3, LOW, HIGH);
        WaterMeadows x = new WaterMeadows();
        for (int what = 0; what < 3; what++) {
            check.due("16: at first what " + what, x.count(what), 0);
        }
        meadow(x);
        int[] due = {2, 10, 6};
        for (int what = 0; what < 3; what++) {
            check.due("16: what " + what, x.count(what), due[what]);
        }
    }

    /** The document promises the answers of 512 calls on one object; the 512th is one of them. */
    private static void fiveHundredAndTwelveCalls() {
        WaterMeadows x = new WaterMeadows();
        for (int i = 0; i < 511; i++) {
            x.hours(4);
        }
        check.due("the 512th call", x.hours(4), 2048);
    }
}
