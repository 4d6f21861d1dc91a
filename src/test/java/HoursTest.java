/** Promise 9 and the Terms: what an hour does to water, carriers, panes, grass, sheep and rights. */
public final class HoursTest {
    private static final int BAD = -1;
    private static final int FULL = -3;
    private static final int NONE = -4;

    private static final Check check = new Check("HoursTest");

    public static void main(String[] args) {
        hoursThatGoBy();
        hoursBeyondTheEnd();
        waterIsTakenAndGivenBack();
        waterIsCutByQuarters();
        panesShareTheRest();
        silt();
        siltCanShutACarrier();
        warmthOfWater();
        growthBeginsAboveTwo();
        frostTakesGrass();
        grassIsFiveThousandAtMost();
        sheepEatByDay();
        sheepEatWhatThereIs();
        turns();
        frostSparesTurns();
        floodSparesAll();
        millByHoursOfDay();
        millShortByOne();
        guiltyAreTheBreakers();
        guiltyAreAllThatTook();
        nobodyIsGuiltyOfADrought();
        orderOfTheBroken();
        check.end();
    }

    private static void hoursThatGoBy() {
        WaterMeadows x = new WaterMeadows();
        int[] bad = {0, -1, 201, Integer.MIN_VALUE, Integer.MAX_VALUE};
        for (int n : bad) {
            check.due("9: hours " + n, x.hours(n), BAD);
        }
        check.due("9: none went by", x.count(1), 0);
        check.due("9: one", x.hours(1), 1);
        check.due("9: two hundred", x.hours(200), 201);
        check.due("9: as counted", x.count(1), 201);
        check.due("9: brought", x.stream(2), 20100);
        check.due("9: no deed", x.count(2), 0);
    }

    private static void hoursBeyondTheEnd() {
        WaterMeadows x = new WaterMeadows();
        for (int i = 1; i <= 11; i++) {
            check.due("9: two hundred more", x.hours(200), 200 * i);
        }
        x.hours(199);
        check.due("9: one too many", x.hours(2), FULL);
        check.due("9: far too many", x.hours(200), FULL);
        check.due("9: bad ahead of full", x.hours(201), BAD);
        check.due("9: nothing changes", x.count(1), 2399);
        check.due("9: nothing is brought", x.stream(2), 239900);
        check.due("9: the last", x.hours(1), 2400);
        check.due("9: beyond it", x.hours(1), FULL);
        check.due("9: all hours", x.count(1), 2400);
    }

    private static void waterIsTakenAndGivenBack() {
        WaterMeadows x = new WaterMeadows();
        x.hatch(0, 60, 2);
        x.hatch(1, 200, 4);
        x.open(0, 2);
        x.open(1, 4);
        x.hours(1);
        // 100: the first takes 50, its panes drink 6 and give 44 back; the second takes all 94.
        check.due("the first takes", x.told(0, 7), 50);
        check.due("the second takes what came back too", x.told(1, 7), 94);
        check.due("drunk", x.stream(3), 18);
        check.due("mill", x.stream(5), 82);
        check.due("mill in all", x.stream(4), 82);
        check.due("pane of the first", x.pane(0, 1, 1), 25);
        check.due("first pane of the second", x.pane(1, 0, 1), 24);
        check.due("second pane of the second", x.pane(1, 1, 1), 24);
        check.due("third pane of the second", x.pane(1, 2, 1), 23);
        x.flow(4);
        x.hours(1);
        check.due("a little water", x.told(0, 7), 2);
        check.due("all of it is drunk", x.stream(3), 18 + 2 + 2);
        check.due("so the second takes the rest", x.told(1, 7), 2);
        check.due("no mill water", x.stream(5), 0);
        check.due("mill in all stays", x.stream(4), 82);
        x.open(0, 0);
        x.hours(1);
        check.due("a shut one takes none", x.told(0, 7), 0);
        check.due("its panes get none", x.pane(0, 0, 1), 0);
    }

    private static void waterIsCutByQuarters() {
        WaterMeadows x = new WaterMeadows();
        x.hatch(0, 200, 1);
        x.flow(7);
        int[] due = {0, 1, 3, 5, 7};
        for (int q = 0; q <= 4; q++) {
            x.open(0, q);
            x.hours(1);
            check.due("7 by quarters " + q, x.told(0, 7), due[q]);
        }
        x.open(0, 2);
        x.flow(1000);
        x.hours(1);
        check.due("not above its width", x.told(0, 7), 200);
    }

    private static void panesShareTheRest() {
        WaterMeadows x = new WaterMeadows();
        x.hatch(0, 7, 4);
        x.open(0, 4);
        x.hours(1);
        int[] got = {2, 2, 2, 1};
        for (int p = 0; p < 4; p++) {
            check.due("pane " + p + " of 7 by 4", x.pane(0, p, 1), got[p]);
            check.due("it drinks all of it", x.pane(0, p, 3), got[p]);
            check.due("it is wet", x.pane(0, p, 2), 1);
        }
        x.flow(2);
        x.hours(1);
        check.due("first of 2", x.pane(0, 0, 1), 1);
        check.due("second of 2", x.pane(0, 1, 1), 1);
        check.due("third of 2", x.pane(0, 2, 1), 0);
        check.due("third is not wet", x.pane(0, 2, 2), 1);
        check.due("second is", x.pane(0, 1, 2), 2);
        x.flow(100);
        x.hatch(0, 15, 4);
        x.open(1, 4);
        x.hours(1);
        check.due("4 are got", x.pane(1, 2, 1), 4);
        check.due("3 are drunk", x.pane(1, 2, 3), 3);
        check.due("3 are got", x.pane(1, 3, 1), 3);
        check.due("and drunk", x.pane(1, 3, 3), 3);
    }

    private static void silt() {
        WaterMeadows x = new WaterMeadows();
        x.hatch(0, 99, 1);
        x.flow(1000);
        x.open(0, 4);
        x.hours(1);
        check.due("99 carried are no silt", x.told(0, 4), 0);
        x.hours(1);
        check.due("198 are 1", x.told(0, 4), 1);
        x.hours(8);
        check.due("990 are 9", x.told(0, 4), 9);
        check.due("9 take no width", x.told(0, 6), 99);
        x.hours(1);
        check.due("1089 are 10", x.told(0, 4), 10);
        check.due("10 take 1", x.told(0, 6), 98);
        check.due("the hour itself was without it", x.told(0, 7), 99);
        x.hours(1);
        check.due("the next is with it", x.told(0, 7), 98);
    }

    private static void siltCanShutACarrier() {
        WaterMeadows x = new WaterMeadows();
        x.hatch(0, 1, 1);
        x.open(0, 4);
        for (int i = 0; i < 5; i++) {
            x.hours(200);
        }
        check.due("1000 carried", x.told(0, 5), 1000);
        check.due("silt 10", x.told(0, 4), 10);
        check.due("it can take none", x.told(0, 6), 0);
        x.hours(1);
        check.due("it takes none", x.told(0, 7), 0);
        check.due("a hatch that takes none breaks no turn", x.farm(0, 3), 1000 - 264);
        x.dig(0);
        check.due("dug it can", x.told(0, 6), 1);
    }

    private static void warmthOfWater() {
        int[] airs = {-20, 0, 3, 4, 5, 30};
        int[] wetGrowth = {2, 2, 2, 2, 3, 28};
        for (int i = 0; i < airs.length; i++) {
            WaterMeadows x = new WaterMeadows();
            x.hatch(0, 10, 1);
            x.open(0, 1);
            x.air(airs[i]);
            x.hours(1);
            check.due("wet at " + airs[i], x.pane(0, 0, 0), wetGrowth[i]);
        }
    }

    private static void growthBeginsAboveTwo() {
        WaterMeadows x = new WaterMeadows();
        x.hatch(0, 10, 1);
        x.air(2);
        x.hours(4);
        check.due("none at 2", x.pane(0, 0, 0), 0);
        x.air(3);
        x.hours(1);
        check.due("1 at 3", x.pane(0, 0, 0), 1);
        x.air(0);
        x.hours(1);
        check.due("0 is no frost", x.pane(0, 0, 0), 1);
        x.air(30);
        x.hours(1);
        check.due("28 at 30", x.pane(0, 0, 0), 29);
    }

    private static void frostTakesGrass() {
        WaterMeadows x = new WaterMeadows();
        x.hatch(0, 10, 2);
        x.hours(1);
        check.due("grown", x.pane(0, 0, 0), 3);
        x.air(-1);
        x.flow(1);
        x.open(0, 4);
        x.hours(1);
        check.due("wet in frost it grows", x.pane(0, 0, 0), 5);
        check.due("dry in frost it shrinks", x.pane(0, 1, 0), 2);
        x.air(-20);
        x.hours(1);
        check.due("by 1, however cold", x.pane(0, 1, 0), 1);
        x.hours(5);
        check.due("not below 0", x.pane(0, 1, 0), 0);
    }

    private static void grassIsFiveThousandAtMost() {
        WaterMeadows x = new WaterMeadows();
        x.hatch(0, 10, 1);
        x.air(30);
        x.hours(178);
        check.due("178 hours", x.pane(0, 0, 0), 178 * 28);
        x.hours(1);
        check.due("179 hours", x.pane(0, 0, 0), 5000);
        x.hours(21);
        check.due("200 hours", x.pane(0, 0, 0), 5000);
        x.sheep(0, 0, 50);
        // Hour 200 is the 8th of its day; grass is cut to 5000 first, eaten then.
        x.hours(1);
        check.due("sheep eat behind the cut", x.pane(0, 0, 0), 4950);
        check.due("sheep ate", x.pane(0, 0, 5), 50);
    }

    private static void sheepEatByDay() {
        WaterMeadows x = new WaterMeadows();
        x.hatch(0, 10, 1);
        x.sheep(0, 0, 1);
        x.hours(6);
        check.due("not ahead of hour 6", x.pane(0, 0, 5), 0);
        x.hours(1);
        check.due("in hour 6", x.pane(0, 0, 5), 1);
        x.hours(10);
        check.due("up to hour 16", x.pane(0, 0, 5), 11);
        x.hours(1);
        check.due("in hour 17", x.pane(0, 0, 5), 12);
        x.hours(1);
        check.due("not in hour 18", x.pane(0, 0, 5), 12);
        x.hours(11);
        check.due("not in the night", x.pane(0, 0, 5), 12);
        x.hours(1);
        check.due("in hour 30", x.pane(0, 0, 5), 13);
        check.due("grass is the less", x.pane(0, 0, 0), 31 * 3 - 13);
    }

    private static void sheepEatWhatThereIs() {
        WaterMeadows x = new WaterMeadows();
        x.hatch(0, 10, 1);
        x.sheep(0, 0, 50);
        x.hours(7);
        check.due("they ate all, what grew in the hour too", x.pane(0, 0, 5), 21);
        check.due("none is left", x.pane(0, 0, 0), 0);
        x.hours(1);
        check.due("they eat what grows", x.pane(0, 0, 5), 24);
        x.air(-5);
        x.hours(1);
        check.due("in frost there is none", x.pane(0, 0, 5), 24);
        check.due("not below 0", x.pane(0, 0, 0), 0);
    }

    private static void turns() {
        for (int farm = 0; farm < 4; farm++) {
            WaterMeadows x = new WaterMeadows();
            x.hatch(farm, 10, 1);
            x.open(0, 1);
            for (int day = 0; day < 9; day++) {
                int was = x.broken(-1, 0);
                x.hours(24);
                int due = day % 4 == farm ? 0 : 24;
                check.due("turns of farm " + farm + " on day " + day, x.broken(-1, 0) - was, due);
            }
            int days = farm == 0 ? 6 : 7;
            check.due("turns that farm " + farm + " broke", x.farm(farm, 3), days * 24);
        }
        WaterMeadows y = new WaterMeadows();
        y.hatch(1, 10, 1);
        y.flow(3);
        y.open(0, 1);
        y.hours(1);
        check.due("open, but it takes none", y.broken(-1, 0), 0);
        y.flow(4);
        y.hours(1);
        check.due("open, and it takes one", y.broken(-1, 0), 1);
    }

    private static void frostSparesTurns() {
        WaterMeadows x = new WaterMeadows();
        x.hatch(1, 10, 1);
        x.open(0, 4);
        x.air(-1);
        x.right(100, 0, 24);
        x.hours(1);
        check.due("no turn in frost", x.farm(1, 3), 0);
        check.due("but the mill has its right", x.broken(-1, 0), 1);
        check.due("its sort", x.broken(0, 1), 2);
        check.due("who took water is guilty", x.broken(0, 2), 1);
        x.air(0);
        x.hours(1);
        check.due("0 is no frost", x.farm(1, 3), 1);
    }

    private static void floodSparesAll() {
        WaterMeadows x = new WaterMeadows();
        x.hatch(1, 200, 4);
        x.open(0, 4);
        x.right(1000, 0, 24);
        x.flow(401);
        x.hours(3);
        check.due("nothing at 401", x.broken(-1, 0), 0);
        check.due("no hour of the mill", x.stream(6), 0);
        check.due("nor without it", x.without(0, 1), 0);
        check.due("no turn", x.farm(1, 3), 0);
        x.flow(400);
        x.hours(1);
        check.due("both at 400", x.broken(-1, 0), 2);
        check.due("an hour of the mill", x.stream(6), 1);
        check.due("without it too", x.without(0, 1), 1);
    }

    private static void millByHoursOfDay() {
        WaterMeadows x = new WaterMeadows();
        x.right(101, 5, 7);
        x.hours(5);
        check.due("not ahead of 5", x.stream(6), 0);
        x.hours(1);
        check.due("in 5", x.stream(6), 1);
        x.hours(1);
        check.due("in 6", x.stream(6), 2);
        x.hours(1);
        check.due("not in 7", x.stream(6), 2);
        x.hours(21);
        check.due("not in the night", x.stream(6), 2);
        x.hours(1);
        check.due("in 5 of the next day", x.stream(6), 3);
        x.right(101, 8, 9);
        x.hours(2);
        check.due("the newer right alone", x.stream(6), 3);
        x.hours(1);
        check.due("in its hour", x.stream(6), 4);
        check.due("of that hour", x.broken(3, 0), 32);
    }

    private static void millShortByOne() {
        WaterMeadows x = new WaterMeadows();
        x.right(100, 0, 24);
        x.hours(1);
        check.due("100 are enough", x.stream(6), 0);
        x.flow(99);
        x.hours(1);
        check.due("99 are not", x.stream(6), 1);
        x.right(0, 0, 24);
        x.flow(0);
        x.hours(1);
        check.due("a right of 0 is never broken", x.stream(6), 1);
    }

    private static void guiltyAreTheBreakers() {
        WaterMeadows x = new WaterMeadows();
        x.hatch(0, 10, 1);
        x.hatch(2, 10, 1);
        x.hatch(0, 10, 1);
        x.hatch(3, 10, 1);
        x.open(0, 4);
        x.open(1, 4);
        x.open(3, 4);
        x.right(100, 0, 24);
        x.hours(1);
        check.due("two turns and the mill", x.broken(-1, 0), 3);
        check.due("first a turn", x.broken(0, 1), 1);
        check.due("of hatch 1", x.broken(0, 2), 1);
        check.due("then a turn", x.broken(1, 1), 1);
        check.due("of hatch 3", x.broken(1, 2), 3);
        check.due("then the mill", x.broken(2, 1), 2);
        check.due("by 1 and 3, not by 0 on its day", x.broken(2, 2), 2 + 8);
    }

    private static void guiltyAreAllThatTook() {
        WaterMeadows x = new WaterMeadows();
        x.hatch(0, 10, 1);
        x.hatch(2, 10, 1);
        x.hatch(0, 10, 1);
        x.open(0, 4);
        x.open(2, 4);
        x.right(100, 0, 24);
        x.hours(1);
        check.due("the mill alone", x.broken(-1, 0), 1);
        check.due("its sort", x.broken(0, 1), 2);
        check.due("all that took water", x.broken(0, 2), 1 + 4);
    }

    private static void nobodyIsGuiltyOfADrought() {
        WaterMeadows x = new WaterMeadows();
        x.hatch(1, 10, 1);
        x.right(101, 0, 24);
        x.hours(1);
        check.due("broken all the same", x.broken(-1, 0), 1);
        check.due("by none", x.broken(0, 2), 0);
        check.due("counted", x.stream(6), 1);
    }

    private static void orderOfTheBroken() {
        WaterMeadows x = new WaterMeadows();
        x.hatch(3, 10, 1);
        x.hatch(3, 10, 1);
        x.open(0, 4);
        x.open(1, 4);
        x.right(100, 0, 24);
        x.hours(30);
        check.due("three an hour", x.broken(-1, 0), 90);
        for (int i = 0; i < 60; i++) {
            check.due("hour of " + i, x.broken(i, 0), i / 3);
            check.due("sort of " + i, x.broken(i, 1), i % 3 == 2 ? 2 : 1);
            check.due("who of " + i, x.broken(i, 2), i % 3 == 2 ? 3 : i % 3);
        }
        check.due("60 are kept", x.broken(60, 0), NONE);
        check.due("turns are counted beyond them", x.farm(3, 3), 60);
        check.due("hours of the mill too", x.stream(6), 30);
    }
}
