/**
 * The sentences of the document's Terms that name an edge, one test each, in the document's order:
 * the number just on this side of the edge and the one just on the other.
 */
public final class TermsTest {
    private static final int FULL = -3;
    private static final int NONE = -4;

    private static final Check check = new Check("TermsTest");

    public static void main(String[] args) {
        hoursAreUpTo2399();
        aDayHas24();
        firstFlowAndAir();
        hatchesGoDownTheStream();
        openIsNoneAtFirst();
        carriedIsSinceDugLast();
        siltIsCarriedByHundredCut();
        aTenthOfSiltCut();
        mostIsNoneAtLeast();
        takesTheLesser();
        quartersAreCut();
        panesGetOneMoreOfTheRest();
        aPaneDrinksThreeAtMost();
        restComesBackBehindTheHatch();
        noHatchAtAll();
        wetFromOneOn();
        warmthIsFourAtLeast();
        growsAboveTwo();
        frostIsBelowZero();
        grassIsNotBelowZero();
        grassIsFiveThousandAtMost();
        sheepEatFromSixToSeventeen();
        sheepEatAsLongAsThereIsGrass();
        flowAboveFourHundred();
        turnNeedsWater();
        turnIsByDayModuloFour();
        turnsInFrost();
        millFromOnAheadOf();
        millHasLess();
        noRightAtFirst();
        guiltyOfTheMill();
        orderOfBroken();
        sixtyAreKept();
        deedsAreOfTheHourToCome();
        withoutNeverOpen();
        withoutAtTheEdges();
        withoutDeedsElseAsTheyWere();
        check.end();
    }

    /** One hatch of farm 0, open by 4: what it takes is the lesser of the flow and its width. */
    private static WaterMeadows open(int width, int panes, int flow) {
        WaterMeadows x = new WaterMeadows();
        x.hatch(0, width, panes);
        x.open(0, 4);
        x.flow(flow);
        return x;
    }

    private static void pass(WaterMeadows x, int hours) {
        for (int left = hours; left > 0; left -= 200) {
            x.hours(Math.min(left, 200));
        }
    }

    private static void hoursAreUpTo2399() {
        WaterMeadows x = new WaterMeadows();
        pass(x, 2399);
        x.right(101, 0, 24);
        check.due("HOUR 2399 is about to begin", x.count(1), 2399);
        check.due("HOUR 2399 goes by", x.hours(1), 2400);
        check.due("HOUR 2399 is the latest", x.broken(0, 0), 2399);
        check.due("there is no HOUR 2400", x.hours(1), FULL);
        check.due("nothing more is BROKEN", x.broken(-1, 0), 1);
        WaterMeadows y = new WaterMeadows();
        y.right(101, 0, 24);
        y.hours(1);
        check.due("the first HOUR is 0", y.broken(0, 0), 0);
    }

    private static void aDayHas24() {
        WaterMeadows x = new WaterMeadows();
        x.hatch(0, 10, 1);
        x.open(0, 4);
        x.right(101, 23, 24);
        x.hours(23);
        check.due("none in HOUR 22", x.broken(-1, 0), 0);
        x.hours(1);
        check.due("HOUR 23 is the last of DAY 0: the mill", x.stream(6), 1);
        check.due("HOUR 23 is of DAY 0: no turn", x.farm(0, 3), 0);
        x.right(101, 0, 1);
        x.hours(1);
        check.due("HOUR 24 is the first of DAY 1: the mill", x.stream(6), 2);
        check.due("HOUR 24 is of DAY 1: a turn", x.farm(0, 3), 1);
        x.hours(1);
        check.due("HOUR 25 is not the first of DAY 1", x.stream(6), 2);
    }

    private static void firstFlowAndAir() {
        WaterMeadows x = new WaterMeadows();
        x.hatch(0, 10, 1);
        x.hours(1);
        check.due("100 at first", x.stream(2), 100);
        check.due("5 at first, and grass grows by it", x.pane(0, 0, 0), 3);
        x.flow(30);
        x.air(9);
        x.hours(3);
        check.due("from then on as told", x.stream(2), 100 + 3 * 30);
        check.due("from then on by 9", x.pane(0, 0, 0), 3 + 3 * 7);
    }

    private static void hatchesGoDownTheStream() {
        WaterMeadows x = new WaterMeadows();
        x.flow(3);
        x.hatch(0, 10, 1);
        x.hatch(0, 10, 1);
        x.open(1, 4);
        x.open(0, 4);
        x.hours(1);
        check.due("the upper one takes it", x.told(0, 7), 3);
        check.due("the lower one has none, though opened first", x.told(1, 7), 0);
        x.open(0, 0);
        x.hours(1);
        check.due("then the lower one has it", x.told(1, 7), 3);
    }

    private static void openIsNoneAtFirst() {
        WaterMeadows x = new WaterMeadows();
        for (int h = 0; h < 6; h++) {
            x.hatch(h % 4, 200, 4);
            check.due("HATCH " + h + " is shut", x.told(h, 3), 0);
        }
        x.hours(1);
        for (int h = 0; h < 6; h++) {
            check.due("HATCH " + h + " takes none", x.told(h, 7), 0);
        }
        check.due("all comes to the mill", x.stream(5), 100);
    }

    private static void carriedIsSinceDugLast() {
        WaterMeadows x = open(50, 1, 40);
        check.due("none ahead of the first HOUR", x.told(0, 5), 0);
        x.hours(3);
        check.due("all since it came", x.told(0, 5), 120);
        x.dig(0);
        check.due("none since dug", x.told(0, 5), 0);
        x.hours(1);
        check.due("all since dug", x.told(0, 5), 40);
        x.open(0, 0);
        x.hours(1);
        check.due("none more of a shut one", x.told(0, 5), 40);
    }

    private static void siltIsCarriedByHundredCut() {
        int[][] due = {{0, 0}, {99, 0}, {100, 1}, {101, 1}, {199, 1}, {200, 2}};
        for (int[] row : due) {
            WaterMeadows x = open(200, 1, row[0]);
            x.hours(1);
            check.due("CARRIED " + row[0], x.told(0, 5), row[0]);
            check.due("SILT of CARRIED " + row[0], x.told(0, 4), row[1]);
            check.due("dug of CARRIED " + row[0], x.dig(0), row[1]);
        }
    }

    /** A width of 100 takes 100 an hour until its silt is 10; the last hour is filled up by its flow. */
    private static void aTenthOfSiltCut() {
        int[][] due = {{99, 9, 100}, {100, 10, 99}};
        for (int[] row : due) {
            WaterMeadows x = open(100, 1, 100);
            x.hours(9);
            x.flow(row[0]);
            x.hours(1);
            check.due("CARRIED", x.told(0, 5), 900 + row[0]);
            check.due("SILT", x.told(0, 4), row[1]);
            check.due("the most at SILT " + row[1], x.told(0, 6), row[2]);
            x.flow(1000);
            x.hours(1);
            check.due("taken at SILT " + row[1], x.told(0, 7), row[2]);
        }
        int[][] later = {{9, 19, 99}, {10, 20, 98}};
        for (int[] row : later) {
            WaterMeadows x = open(100, 1, 100);
            x.hours(10);
            x.flow(99);
            x.hours(10);
            check.due("CARRIED ahead of the last", x.told(0, 5), 1990);
            x.flow(row[0]);
            x.hours(1);
            check.due("SILT", x.told(0, 4), row[1]);
            check.due("the most at SILT " + row[1], x.told(0, 6), row[2]);
        }
    }

    private static void mostIsNoneAtLeast() {
        WaterMeadows x = open(1, 1, 100);
        pass(x, 999);
        check.due("one HOUR ahead, the most", x.told(0, 6), 1);
        x.hours(1);
        check.due("the most of a silted carrier", x.told(0, 6), 0);
        x.hours(200);
        check.due("it stays 0", x.told(0, 6), 0);
        check.due("nothing is taken", x.told(0, 7), 0);
        check.due("nothing is carried", x.told(0, 5), 1000);
        check.due("its pane got none", x.pane(0, 0, 1), 0);
        check.due("its pane was wet before", x.pane(0, 0, 2), 1000);
        check.due("dig it", x.dig(0), 10);
        check.due("it can take again", x.told(0, 6), 1);
        x.hours(1);
        check.due("it takes again", x.told(0, 7), 1);
    }

    private static void takesTheLesser() {
        int[][] due = {{39, 39}, {40, 40}, {41, 40}};
        for (int[] row : due) {
            WaterMeadows x = open(40, 1, row[0]);
            x.hours(1);
            check.due("of " + row[0] + " by a width of 40", x.told(0, 7), row[1]);
        }
        int[][] halves = {{78, 39}, {79, 39}, {80, 40}, {81, 40}, {82, 40}};
        for (int[] row : halves) {
            WaterMeadows x = open(40, 1, row[0]);
            x.open(0, 2);
            x.hours(1);
            check.due("of half " + row[0] + " by a width of 40", x.told(0, 7), row[1]);
        }
    }

    private static void quartersAreCut() {
        int[] flows = {0, 1, 2, 3, 4, 5};
        int[][] due = {{0, 0, 0, 0, 0, 0}, {0, 0, 0, 0, 1, 1}, {0, 0, 1, 1, 2, 2}, {0, 0, 1, 2, 3, 3}, {0, 1, 2, 3, 4, 5}};
        for (int quarters = 0; quarters <= 4; quarters++) {
            for (int f = 0; f < flows.length; f++) {
                WaterMeadows x = open(200, 1, flows[f]);
                x.open(0, quarters);
                x.hours(1);
                check.due(quarters + " quarters of " + flows[f], x.told(0, 7), due[quarters][f]);
            }
        }
        WaterMeadows most = open(200, 4, 1000);
        most.open(0, 1);
        most.hours(1);
        check.due("a quarter of 1000 is above the widest", most.told(0, 7), 200);
    }

    private static void panesGetOneMoreOfTheRest() {
        for (int panes = 1; panes <= 4; panes++) {
            for (int taken = 0; taken <= 9; taken++) {
                WaterMeadows x = open(200, panes, taken);
                x.hours(1);
                for (int p = 0; p < panes; p++) {
                    // So many of 0 to taken - 1 fall on this pane, if they are dealt out in turn.
                    int due = (taken + panes - 1 - p) / panes;
                    check.due(taken + " to PANE " + p + " of " + panes, x.pane(0, p, 1), due);
                }
            }
        }
    }

    private static void aPaneDrinksThreeAtMost() {
        int[] drunk = {0, 1, 2, 3, 3, 3};
        for (int got = 0; got <= 5; got++) {
            WaterMeadows x = open(200, 1, got);
            x.hours(1);
            check.due("of " + got + " a pane drinks", x.pane(0, 0, 3), drunk[got]);
            check.due("of " + got + " is drunk in all", x.stream(3), drunk[got]);
            check.due("of " + got + " comes to the mill", x.stream(5), got - drunk[got]);
        }
        WaterMeadows x = open(200, 4, 13);
        x.hours(2);
        check.due("each of four drinks for itself", x.stream(3), 2 * 12);
        check.due("in two HOURS", x.pane(0, 3, 3), 6);
        check.due("one is left each HOUR", x.stream(4), 2);
    }

    private static void restComesBackBehindTheHatch() {
        WaterMeadows x = new WaterMeadows();
        x.hatch(0, 200, 1);
        x.hatch(1, 200, 1);
        x.open(0, 4);
        x.open(1, 4);
        x.flow(10);
        x.hours(1);
        check.due("the first has all", x.told(0, 7), 10);
        check.due("it does not take again what came back", x.pane(0, 0, 1), 10);
        check.due("the next has what came back", x.told(1, 7), 7);
        check.due("the mill has the rest", x.stream(5), 4);
        x.flow(3);
        x.hours(1);
        check.due("all is drunk: none for the next", x.told(1, 7), 0);
        x.flow(4);
        x.hours(1);
        check.due("one comes back for the next", x.told(1, 7), 1);
    }

    private static void noHatchAtAll() {
        int[] flows = {0, 1, 1000};
        for (int flow : flows) {
            WaterMeadows x = new WaterMeadows();
            x.flow(flow);
            x.hours(2);
            check.due("all of " + flow + " comes to the mill", x.stream(5), flow);
            check.due("all of " + flow + " in all", x.stream(4), 2 * flow);
            check.due("none of " + flow + " is drunk", x.stream(3), 0);
        }
    }

    private static void wetFromOneOn() {
        for (int got = 0; got <= 2; got++) {
            WaterMeadows x = open(200, 1, got);
            x.hours(1);
            check.due("WET HOURS by " + got, x.pane(0, 0, 2), got > 0 ? 1 : 0);
            check.due("WET HOURS of the FARM by " + got, x.farm(0, 2), got > 0 ? 1 : 0);
        }
        WaterMeadows x = open(200, 2, 1);
        x.hours(5);
        check.due("the first of two by 1", x.pane(0, 0, 2), 5);
        check.due("the second of two by 1", x.pane(0, 1, 2), 0);
        x.open(0, 0);
        x.hours(1);
        check.due("not WET any more", x.pane(0, 0, 2), 5);
    }

    private static void warmthIsFourAtLeast() {
        int[][] due = {{-20, 2, 0}, {-1, 2, 0}, {0, 2, 0}, {2, 2, 0}, {3, 2, 1}, {4, 2, 2}, {5, 3, 3}, {30, 28, 28}};
        for (int[] row : due) {
            WaterMeadows x = open(200, 2, 1);
            x.air(row[0]);
            x.hours(1);
            check.due("WET at " + row[0], x.pane(0, 0, 0), row[1]);
            check.due("not WET at " + row[0], x.pane(0, 1, 0), row[2]);
        }
    }

    private static void growsAboveTwo() {
        int[][] due = {{1, 0}, {2, 0}, {3, 1}, {4, 2}};
        for (int[] row : due) {
            WaterMeadows x = new WaterMeadows();
            x.hatch(0, 10, 1);
            x.air(row[0]);
            x.hours(3);
            check.due("3 HOURS at " + row[0], x.pane(0, 0, 0), 3 * row[1]);
        }
    }

    private static void frostIsBelowZero() {
        int[][] due = {{1, 30}, {0, 30}, {-1, 29}, {-2, 29}, {-20, 29}};
        for (int[] row : due) {
            WaterMeadows x = open(10, 2, 1);
            x.open(0, 0);
            x.hours(10);
            check.due("GRASS ahead", x.pane(0, 1, 0), 30);
            x.open(0, 4);
            x.air(row[0]);
            x.hours(1);
            check.due("not WET at " + row[0], x.pane(0, 1, 0), row[1]);
            check.due("WET at " + row[0], x.pane(0, 0, 0), 32);
        }
    }

    private static void grassIsNotBelowZero() {
        WaterMeadows x = new WaterMeadows();
        x.hatch(0, 10, 1);
        x.air(-5);
        x.hours(1);
        check.due("none from the first", x.pane(0, 0, 0), 0);
        x.air(4);
        x.hours(1);
        x.air(-5);
        check.due("2 ahead", x.pane(0, 0, 0), 2);
        x.hours(1);
        check.due("1 left", x.pane(0, 0, 0), 1);
        x.hours(1);
        check.due("0 left", x.pane(0, 0, 0), 0);
        x.hours(1);
        check.due("0 stays", x.pane(0, 0, 0), 0);
        check.due("0 of the FARM", x.farm(0, 0), 0);
        x.air(3);
        x.hours(1);
        check.due("it grows from 0 on", x.pane(0, 0, 0), 1);
    }

    private static void grassIsFiveThousandAtMost() {
        WaterMeadows x = new WaterMeadows();
        x.hatch(0, 10, 1);
        x.air(30);
        x.hours(178);
        x.air(17);
        x.hours(1);
        check.due("178 times 28 and 15", x.pane(0, 0, 0), 4999);
        x.air(3);
        x.hours(1);
        check.due("1 more", x.pane(0, 0, 0), 5000);
        x.hours(1);
        check.due("no more", x.pane(0, 0, 0), 5000);
        x.air(-1);
        x.hours(1);
        check.due("frost takes from 5000", x.pane(0, 0, 0), 4999);
        x.air(30);
        x.hours(1);
        check.due("28 more are cut", x.pane(0, 0, 0), 5000);
        check.due("so for the FARM", x.farm(0, 0), 5000);
        check.due("so WITHOUT", x.without(0, 2), 5000);
        // Hour 198 is the 6th of its day: the cut is ahead of the sheep.
        x.hours(15);
        x.sheep(0, 0, 1);
        x.hours(1);
        check.due("the latest was HOUR 198", x.count(1), 199);
        check.due("SHEEP eat from 5000", x.pane(0, 0, 0), 4999);
    }

    private static void sheepEatFromSixToSeventeen() {
        WaterMeadows x = new WaterMeadows();
        x.hatch(0, 10, 1);
        x.sheep(0, 0, 2);
        for (int hour = 0; hour < 48; hour++) {
            int was = x.pane(0, 0, 5);
            x.hours(1);
            int hourOfDay = hour % 24;
            check.due("eaten in HOUR " + hour, x.pane(0, 0, 5) - was, hourOfDay >= 6 && hourOfDay <= 17 ? 2 : 0);
        }
        check.due("eaten on two DAYS", x.farm(0, 1), 48);
    }

    private static void sheepEatAsLongAsThereIsGrass() {
        // Hour 6 begins with 1 * 6 and grows 1 more: 7 to eat.
        int[][] due = {{0, 0, 7}, {1, 1, 6}, {6, 6, 1}, {7, 7, 0}, {8, 7, 0}, {50, 7, 0}};
        for (int[] row : due) {
            WaterMeadows x = new WaterMeadows();
            x.hatch(0, 10, 2);
            x.air(3);
            x.hours(6);
            x.sheep(0, 0, row[0]);
            x.hours(1);
            check.due(row[0] + " SHEEP eat", x.pane(0, 0, 5), row[1]);
            check.due(row[0] + " SHEEP leave", x.pane(0, 0, 0), row[2]);
            check.due(row[0] + " SHEEP eat of their PANE alone", x.pane(0, 1, 0), 7);
            x.air(0);
            x.hours(1);
            check.due(row[0] + " SHEEP in the next", x.pane(0, 0, 5), Math.min(7, 2 * row[0]));
        }
    }

    private static void flowAboveFourHundred() {
        int[][] due = {{399, 1}, {400, 1}, {401, 0}, {1000, 0}};
        for (int[] row : due) {
            WaterMeadows x = open(10, 1, row[0]);
            x.right(1000, 0, 24);
            x.hours(24);
            // Day 0 is farm 0's; the next hour breaks its turn.
            check.due("a DAY of the mill at " + row[0], x.broken(-1, 0), 24 * row[1]);
            x.hours(1);
            check.due("a TURN at " + row[0], x.farm(0, 3), row[1]);
            check.due("of the mill at " + row[0], x.stream(6), 25 * row[1]);
            check.due("of the mill WITHOUT at " + row[0], x.without(0, 1), 25 * row[1]);
        }
    }

    private static void turnNeedsWater() {
        int[][] due = {{0, 4, 0}, {1, 4, 1}, {3, 1, 0}, {4, 1, 1}, {100, 0, 0}, {100, 1, 1}};
        for (int[] row : due) {
            WaterMeadows x = new WaterMeadows();
            x.hatch(1, 10, 1);
            x.flow(row[0]);
            x.open(0, row[1]);
            x.hours(1);
            check.due("a TURN by " + row[1] + " quarters of " + row[0], x.farm(1, 3), row[2]);
            check.due("all by " + row[1] + " quarters of " + row[0], x.broken(-1, 0), row[2]);
        }
    }

    private static void turnIsByDayModuloFour() {
        int[] days = {0, 1, 2, 3, 4, 5, 98, 99};
        for (int farm = 0; farm < 4; farm++) {
            for (int day : days) {
                WaterMeadows x = new WaterMeadows();
                x.hatch(farm, 10, 1);
                pass(x, day * 24);
                x.open(0, 1);
                x.hours(1);
                int due = day % 4 == farm ? 0 : 1;
                check.due("FARM " + farm + " in the first HOUR of DAY " + day, x.farm(farm, 3), due);
                x.hours(23);
                check.due("FARM " + farm + " in all of DAY " + day, x.farm(farm, 3), 24 * due);
            }
        }
    }

    private static void turnsInFrost() {
        int[][] due = {{-20, 0}, {-1, 0}, {0, 1}, {1, 1}};
        for (int[] row : due) {
            WaterMeadows x = new WaterMeadows();
            x.hatch(1, 10, 1);
            x.open(0, 4);
            x.air(row[0]);
            x.hours(1);
            check.due("a TURN at " + row[0], x.farm(1, 3), row[1]);
            check.due("all at " + row[0], x.broken(-1, 0), row[1]);
        }
    }

    private static void millFromOnAheadOf() {
        WaterMeadows x = new WaterMeadows();
        x.right(101, 6, 18);
        for (int hour = 0; hour < 48; hour++) {
            int was = x.stream(6);
            x.hours(1);
            int hourOfDay = hour % 24;
            check.due("the mill in HOUR " + hour, x.stream(6) - was, hourOfDay >= 6 && hourOfDay < 18 ? 1 : 0);
        }
        check.due("BROKEN in all", x.broken(-1, 0), 24);
    }

    private static void millHasLess() {
        int[][] due = {{96, 0}, {97, 0}, {98, 1}, {1000, 1}, {0, 0}};
        for (int[] row : due) {
            WaterMeadows x = open(10, 1, 100);
            x.right(row[0], 0, 24);
            x.hours(1);
            check.due("97 by a RIGHT of " + row[0], x.stream(6), row[1]);
            check.due("BROKEN by a RIGHT of " + row[0], x.broken(-1, 0), row[1]);
        }
        WaterMeadows dry = new WaterMeadows();
        dry.flow(0);
        dry.right(1, 0, 24);
        dry.hours(1);
        check.due("0 by a RIGHT of 1", dry.stream(6), 1);
        dry.right(0, 0, 24);
        dry.hours(1);
        check.due("0 by a RIGHT of 0", dry.stream(6), 1);
    }

    private static void noRightAtFirst() {
        WaterMeadows x = new WaterMeadows();
        x.flow(0);
        x.hours(48);
        check.due("no RIGHT to break", x.stream(6), 0);
        check.due("nothing BROKEN", x.broken(-1, 0), 0);
        check.due("none is told", x.broken(0, 0), NONE);
        check.due("it was none", x.right(1, 0, 1), 0);
    }

    private static void guiltyOfTheMill() {
        WaterMeadows x = new WaterMeadows();
        for (int h = 0; h < 6; h++) {
            x.hatch(h < 3 ? 0 : 1, 10, 1);
            x.open(h, 4);
        }
        x.right(1000, 0, 24);
        x.hours(1);
        check.due("three TURNS and the mill", x.broken(-1, 0), 4);
        check.due("the breakers of a TURN alone", x.broken(3, 2), 8 + 16 + 32);
        x.air(-1);
        x.hours(1);
        check.due("no TURN in frost, but the mill", x.broken(-1, 0), 5);
        check.due("all that took water", x.broken(4, 2), 63);
        x.open(2, 0);
        x.flow(13);
        x.hours(1);
        // 13 less 3 for each of 0, 1, 3, 4 leaves 1 for 5; 2 is shut.
        check.due("a shut one is not GUILTY", x.broken(5, 2), 63 - 4);
        x.flow(12);
        x.hours(1);
        check.due("nor one that had no water", x.broken(6, 2), 1 + 2 + 8 + 16);
        x.flow(0);
        x.hours(1);
        check.due("nobody, if none took water", x.broken(7, 2), 0);
        check.due("its sort", x.broken(7, 1), 2);
    }

    private static void orderOfBroken() {
        WaterMeadows x = new WaterMeadows();
        x.hatch(3, 10, 1);
        x.hatch(2, 10, 1);
        x.hatch(1, 10, 1);
        // Opened from below, and told by hatches all the same.
        x.open(2, 1);
        x.open(1, 1);
        x.open(0, 1);
        x.right(1000, 1, 2);
        x.hours(3);
        int[][] due = {{0, 1, 0}, {0, 1, 1}, {0, 1, 2}, {1, 1, 0}, {1, 1, 1}, {1, 1, 2}, {1, 2, 7}, {2, 1, 0}, {2, 1, 1}, {2, 1, 2}};
        check.due("BROKEN in all", x.broken(-1, 0), due.length);
        for (int i = 0; i < due.length; i++) {
            for (int what = 0; what < 3; what++) {
                check.due("BROKEN " + i + " what " + what, x.broken(i, what), due[i][what]);
            }
        }
        check.due("no more", x.broken(due.length, 0), NONE);
    }

    private static void sixtyAreKept() {
        WaterMeadows x = new WaterMeadows();
        x.right(101, 0, 24);
        x.hours(59);
        check.due("59: the last", x.broken(58, 0), 58);
        check.due("59: no 60th", x.broken(59, 0), NONE);
        x.hours(1);
        check.due("60: the last", x.broken(59, 0), 59);
        check.due("60: counted", x.broken(-1, 0), 60);
        x.hours(1);
        check.due("61: counted", x.broken(-1, 0), 61);
        check.due("61: not kept", x.broken(60, 0), NONE);
        check.due("61: the first is", x.broken(0, 0), 0);
        check.due("61: the 60th is", x.broken(59, 0), 59);
        pass(x, 2400 - 61);
        check.due("all are counted to the end", x.broken(-1, 0), 2400);
        check.due("all HOURS of the mill too", x.stream(6), 2400);
        check.due("the 60th stays", x.broken(59, 0), 59);
    }

    private static void deedsAreOfTheHourToCome() {
        WaterMeadows x = open(10, 1, 100);
        x.hours(1);
        x.open(0, 0);
        x.flow(0);
        x.air(-20);
        x.sheep(0, 0, 50);
        x.right(1000, 0, 24);
        x.dig(0);
        x.hatch(1, 20, 1);
        check.due("what was taken stays", x.told(0, 7), 10);
        check.due("what was got stays", x.pane(0, 0, 1), 10);
        check.due("what came to the mill stays", x.stream(5), 97);
        check.due("what was brought stays", x.stream(2), 100);
        check.due("GRASS stays", x.pane(0, 0, 0), 3);
        check.due("nothing was eaten", x.pane(0, 0, 5), 0);
        check.due("nothing was BROKEN", x.broken(-1, 0), 0);
        check.due("a new one took none", x.told(1, 7), 0);
        check.due("WITHOUT stays", x.without(0, 0), 100);
        check.due("WITHOUT the new one is as it was", x.without(1, 0), 97);
        x.hours(1);
        check.due("then it takes none", x.told(0, 7), 0);
        check.due("then the mill has none", x.stream(5), 0);
        check.due("then frost takes grass", x.pane(0, 0, 0), 2);
        check.due("then the RIGHT is BROKEN", x.broken(0, 0), 1);
    }

    private static void withoutNeverOpen() {
        WaterMeadows x = new WaterMeadows();
        x.hatch(0, 10, 1);
        x.hatch(1, 10, 1);
        x.open(0, 4);
        x.right(98, 0, 24);
        x.hours(5);
        check.due("one that never was OPEN: the mill", x.without(1, 0), x.stream(4));
        check.due("one that never was OPEN: its RIGHT", x.without(1, 1), 5);
        check.due("one that was OPEN: the mill", x.without(0, 0), 500);
        check.due("one that was OPEN: its RIGHT", x.without(0, 1), 0);
        x.open(0, 0);
        x.hours(5);
        check.due("shut again: as it is", x.stream(4), 5 * 97 + 5 * 100);
        check.due("shut again: it had been OPEN", x.without(0, 0), 1000);
        x.open(0, 1);
        x.hours(5);
        check.due("OPEN again: never", x.without(0, 0), 1500);
        check.due("OPEN again: as it is", x.stream(6), 10);
        check.due("OPEN again: its RIGHT never", x.without(0, 1), 0);
    }

    private static void withoutAtTheEdges() {
        WaterMeadows x = new WaterMeadows();
        x.hatch(0, 10, 1);
        x.hatch(1, 10, 1);
        x.open(0, 4);
        x.air(-1);
        x.flow(3);
        x.hours(10);
        check.due("as it is it grows in frost", x.farm(0, 0), 20);
        check.due("WITHOUT frost takes what there is not", x.without(0, 2), 0);
        x.air(4);
        x.open(0, 0);
        x.hours(1);
        check.due("WITHOUT it grows from 0", x.without(0, 2), 2);
        x.sheep(0, 0, 50);
        x.hours(1);
        // Hour 11: 2 more grow; as it is there are 24 to eat, without it 4.
        check.due("as it is SHEEP eat", x.pane(0, 0, 5), 24);
        check.due("WITHOUT they eat as long as there is", x.without(0, 2), 0);
        WaterMeadows y = new WaterMeadows();
        y.hatch(0, 10, 1);
        y.hatch(1, 10, 1);
        y.open(0, 4);
        y.open(1, 4);
        y.flow(10);
        // As it is 4 come to the mill, without one of them 7.
        int[][] due = {{4, 0, 0}, {5, 1, 0}, {7, 1, 0}, {8, 1, 1}};
        int broken = 0;
        int without = 0;
        for (int[] row : due) {
            y.right(row[0], 0, 24);
            y.hours(1);
            broken += row[1];
            without += row[2];
            check.due("as it is by a RIGHT of " + row[0], y.stream(6), broken);
            check.due("WITHOUT 0 by a RIGHT of " + row[0], y.without(0, 1), without);
            check.due("WITHOUT 1 by a RIGHT of " + row[0], y.without(1, 1), without);
        }
    }

    private static void withoutDeedsElseAsTheyWere() {
        WaterMeadows x = new WaterMeadows();
        x.hours(3);
        x.hatch(0, 4, 1);
        x.hatch(1, 1, 1);
        x.flow(4);
        x.air(0);
        x.open(0, 4);
        x.open(1, 4);
        pass(x, 1000);
        // The upper one leaves 1 of 4, which is all that the lower one can take: it silts either way.
        check.due("the lower one is shut by its silt", x.told(1, 6), 0);
        check.due("WITHOUT the upper one it drank 1000", x.without(0, 0), 300 + 3000);
        x.hours(1);
        check.due("then it drinks no more", x.without(0, 0), 300 + 3000 + 4);
        int dry = 300 + 3000 + 4;
        x.dig(1);
        x.hours(1);
        check.due("it is dug WITHOUT the upper one too", x.without(0, 0), dry + 3);
        check.due("its GRASS WITHOUT the upper one", x.without(0, 3), 2002);
        check.due("its GRASS WITHOUT itself", x.without(1, 3), 0);
        pass(x, 999);
        check.due("it has carried none when dug WITHOUT the upper one", x.without(0, 0), dry + 3000);
        x.hours(1);
        check.due("so it is silted after 1000 again", x.without(0, 0), dry + 3000 + 4);
        check.due("HOURS ahead of both count", x.without(1, 0), x.stream(4) + x.pane(1, 0, 3));
    }
}
