/**
 * Water meadows on one stream, hour by hour. The stream as it is and, for each hatch, the stream
 * as it would be without that hatch run side by side under the same orders, so that nothing has
 * to be replayed and nothing is made after the constructor.
 */
public final class WaterMeadows {
    public static final int BAD = -1, NO = -2, FULL = -3, NONE = -4;

    // Degrees may be -1 to -4 themselves, so what tells of the air refuses with numbers of its own.
    private static final int BAD_DEGREES = -100;
    private static final int FULL_DEGREES = -101;

    private static final int HATCHES = 6;
    private static final int PANES = 4;
    private static final int FARMS = 4;
    private static final int WIDEST = 200;
    private static final int QUARTERS = 4;
    private static final int MOST_FLOW = 1000;
    private static final int COLDEST = -20;
    private static final int WARMEST = 30;
    private static final int MOST_SHEEP = 50;
    private static final int MOST_RIGHT = 1000;
    private static final int DAY_HOURS = 24;
    private static final int MOST_HOURS_AT_ONCE = 200;
    private static final int LAST_HOUR = 2400;
    private static final int MOST_DEEDS = 90;

    private static final int FIRST_FLOW = 100;
    private static final int FIRST_AIR = 5;
    private static final int WATER_TO_SILT = 100;
    private static final int SILT_TO_WIDTH = 10;
    private static final int THIRST = 3;
    private static final int WET_WARMTH = 4;
    private static final int GROWTH_ABOVE = 2;
    private static final int MOST_GRASS = 5000;
    private static final int GRAZING_FIRST = 6;
    private static final int GRAZING_LAST = 17;

    private static final int LAWFUL_FLOW = 400;
    private static final int BROKEN_KEPT = 60;
    private static final int TURN = 1;
    private static final int MILL = 2;
    private static final int NO_HATCH = -1;

    private final Orders orders;
    private final Ledger ledger;
    private final Course real;
    private final Course[] shut;
    private int hourNow;
    private int deeds;

    public WaterMeadows() {
        orders = new Orders();
        ledger = new Ledger();
        real = new Course(orders, NO_HATCH);
        shut = new Course[HATCHES];
        for (int h = 0; h < HATCHES; h++) {
            shut[h] = new Course(orders, h);
        }
    }

    public int hatch(int farm, int width, int panes) {
        if (!isWithin(farm, 0, FARMS - 1) || !isWithin(width, 1, WIDEST) || !isWithin(panes, 1, PANES)) {
            return BAD;
        }
        if (orders.hatches >= HATCHES || hasAllDeeds()) {
            return FULL;
        }
        deeds++;
        return orders.addHatch(farm, width, panes);
    }

    public int open(int hatch, int quarters) {
        if (!orders.isHatch(hatch) || !isWithin(quarters, 0, QUARTERS)) {
            return BAD;
        }
        if (hasAllDeeds()) {
            return FULL;
        }
        deeds++;
        int was = orders.quartersOf[hatch];
        orders.quartersOf[hatch] = quarters;
        return was;
    }

    public int flow(int f) {
        if (!isWithin(f, 0, MOST_FLOW)) {
            return BAD;
        }
        if (hasAllDeeds()) {
            return FULL;
        }
        deeds++;
        int was = orders.flowNow;
        orders.flowNow = f;
        return was;
    }

    public int air(int degrees) {
        if (!isWithin(degrees, COLDEST, WARMEST)) {
            return BAD_DEGREES;
        }
        if (hasAllDeeds()) {
            return FULL_DEGREES;
        }
        deeds++;
        int was = orders.airNow;
        orders.airNow = degrees;
        return was;
    }

    public int dig(int hatch) {
        if (!orders.isHatch(hatch)) {
            return BAD;
        }
        if (hasAllDeeds()) {
            return FULL;
        }
        deeds++;
        int was = real.siltOf(hatch);
        real.carried[hatch] = 0;
        // It would have been dug without any other hatch as well.
        for (int h = 0; h < HATCHES; h++) {
            shut[h].carried[hatch] = 0;
        }
        return was;
    }

    public int sheep(int hatch, int pane, int n) {
        if (!orders.isPane(hatch, pane) || !isWithin(n, 0, MOST_SHEEP)) {
            return BAD;
        }
        if (hasAllDeeds()) {
            return FULL;
        }
        deeds++;
        int at = placeOf(hatch, pane);
        int was = orders.sheepOn[at];
        orders.sheepOn[at] = n;
        return was;
    }

    public int right(int r, int f, int t) {
        if (!isWithin(r, 0, MOST_RIGHT) || !isWithin(f, 0, DAY_HOURS) || !isWithin(t, 0, DAY_HOURS) || f >= t) {
            return BAD;
        }
        if (hasAllDeeds()) {
            return FULL;
        }
        deeds++;
        int was = orders.rightNow;
        orders.rightNow = r;
        orders.rightFrom = f;
        orders.rightAheadOf = t;
        return was;
    }

    public int hours(int n) {
        if (!isWithin(n, 1, MOST_HOURS_AT_ONCE)) {
            return BAD;
        }
        if (hourNow + n > LAST_HOUR) {
            return FULL;
        }
        for (int i = 0; i < n; i++) {
            advance();
        }
        return hourNow;
    }

    public int told(int hatch, int what) {
        if (!orders.isHatch(hatch)) {
            return BAD;
        }
        switch (what) {
            case 0: return orders.farmOf[hatch];
            case 1: return orders.widthOf[hatch];
            case 2: return orders.panesOf[hatch];
            case 3: return orders.quartersOf[hatch];
            case 4: return real.siltOf(hatch);
            case 5: return real.carried[hatch];
            case 6: return real.mostOf(hatch);
            case 7: return real.took[hatch];
            default: return BAD;
        }
    }

    public int pane(int hatch, int pane, int what) {
        if (!orders.isPane(hatch, pane)) {
            return BAD;
        }
        int at = placeOf(hatch, pane);
        switch (what) {
            case 0: return real.grass[at];
            case 1: return real.got[at];
            case 2: return real.wetHours[at];
            case 3: return real.drank[at];
            case 4: return orders.sheepOn[at];
            case 5: return real.eaten[at];
            default: return BAD;
        }
    }

    public int stream(int what) {
        switch (what) {
            case 0: return orders.flowNow;
            case 1: return orders.airNow;
            case 2: return real.brought;
            case 3: return real.drunk;
            case 4: return real.milled;
            case 5: return real.atMill;
            case 6: return real.millBroken;
            default: return BAD_DEGREES;
        }
    }

    public int broken(int i, int what) {
        if (i == -1 && what == 0) {
            return ledger.all;
        }
        if (i < 0 || !isWithin(what, 0, 2)) {
            return BAD;
        }
        if (i >= ledger.kept) {
            return NONE;
        }
        switch (what) {
            case 0: return ledger.hourOf[i];
            case 1: return ledger.sortOf[i];
            default: return ledger.whoOf[i];
        }
    }

    public int farm(int farm, int what) {
        if (!isWithin(farm, 0, FARMS - 1)) {
            return BAD;
        }
        switch (what) {
            case 0: return real.sumOfFarm(real.grass, farm);
            case 1: return real.sumOfFarm(real.eaten, farm);
            case 2: return real.sumOfFarm(real.wetHours, farm);
            case 3: return ledger.turnsOf[farm];
            default: return BAD;
        }
    }

    public int without(int hatch, int what) {
        if (!orders.isHatch(hatch) || !isWithin(what, 0, 1 + FARMS)) {
            return BAD;
        }
        Course course = shut[hatch];
        switch (what) {
            case 0: return course.milled;
            case 1: return course.millBroken;
            default: return course.sumOfFarm(course.grass, what - 2);
        }
    }

    public int count(int what) {
        switch (what) {
            case 0: return orders.hatches;
            case 1: return hourNow;
            case 2: return deeds;
            default: return BAD;
        }
    }

    private static boolean isWithin(int n, int least, int most) {
        return n >= least && n <= most;
    }

    private static int placeOf(int hatch, int pane) {
        return hatch * PANES + pane;
    }

    private boolean hasAllDeeds() {
        return deeds >= MOST_DEEDS;
    }

    private void advance() {
        real.passHour(hourNow);
        judgeHour();
        // Also for hatches still to come: their streams must bring along what came before them.
        for (int h = 0; h < HATCHES; h++) {
            shut[h].passHour(hourNow);
        }
        hourNow++;
    }

    private void judgeHour() {
        int takers = 0;
        int breakers = 0;
        for (int h = 0; h < orders.hatches; h++) {
            if (real.took[h] > 0) {
                takers |= 1 << h;
                if (orders.isOutOfTurn(h, hourNow)) {
                    breakers |= 1 << h;
                    ledger.enterTurn(hourNow, h, orders.farmOf[h]);
                }
            }
        }
        if (real.isMillShort(hourNow)) {
            ledger.enter(hourNow, MILL, breakers != 0 ? breakers : takers);
        }
    }

    /** What has been told and holds now: the same for the real stream and for those without a hatch. */
    private static final class Orders {
        final int[] farmOf = new int[HATCHES];
        final int[] widthOf = new int[HATCHES];
        final int[] panesOf = new int[HATCHES];
        final int[] quartersOf = new int[HATCHES];
        final int[] sheepOn = new int[HATCHES * PANES];
        int hatches;
        int flowNow = FIRST_FLOW;
        int airNow = FIRST_AIR;
        int rightNow;
        int rightFrom;
        int rightAheadOf;

        Orders() {
        }

        boolean isHatch(int hatch) {
            return hatch >= 0 && hatch < hatches;
        }

        boolean isPane(int hatch, int pane) {
            return isHatch(hatch) && pane >= 0 && pane < panesOf[hatch];
        }

        /** The caller has seen that there is room for one more. */
        int addHatch(int farm, int width, int panes) {
            int number = hatches;
            farmOf[number] = farm;
            widthOf[number] = width;
            panesOf[number] = panes;
            hatches++;
            return number;
        }

        boolean isLawless() {
            return flowNow > LAWFUL_FLOW;
        }

        boolean isOutOfTurn(int hatch, int hour) {
            boolean ownDay = hour / DAY_HOURS % FARMS == farmOf[hatch];
            return !ownDay && airNow >= 0 && !isLawless();
        }

        int rightAt(int hour) {
            int hourOfDay = hour % DAY_HOURS;
            boolean inForce = hourOfDay >= rightFrom && hourOfDay < rightAheadOf && !isLawless();
            return inForce ? rightNow : 0;
        }

        boolean isGrazing(int hour) {
            return isWithin(hour % DAY_HOURS, GRAZING_FIRST, GRAZING_LAST);
        }
    }

    /** The rights that were broken on the real stream. */
    private static final class Ledger {
        final int[] hourOf = new int[BROKEN_KEPT];
        final int[] sortOf = new int[BROKEN_KEPT];
        final int[] whoOf = new int[BROKEN_KEPT];
        final int[] turnsOf = new int[FARMS];
        int kept;
        int all;

        Ledger() {
        }

        void enterTurn(int hour, int hatch, int farm) {
            turnsOf[farm]++;
            enter(hour, TURN, hatch);
        }

        void enter(int hour, int sort, int who) {
            all++;
            if (kept < BROKEN_KEPT) {
                hourOf[kept] = hour;
                sortOf[kept] = sort;
                whoOf[kept] = who;
                kept++;
            }
        }
    }

    /** The stream with its meadows under the orders, one hatch of it never open (or none such). */
    private static final class Course {
        final Orders orders;
        final int neverOpen;
        final int[] carried = new int[HATCHES];
        final int[] took = new int[HATCHES];
        final int[] grass = new int[HATCHES * PANES];
        final int[] got = new int[HATCHES * PANES];
        final int[] wetHours = new int[HATCHES * PANES];
        final int[] drank = new int[HATCHES * PANES];
        final int[] eaten = new int[HATCHES * PANES];
        int brought;
        int drunk;
        int milled;
        int atMill;
        int millBroken;

        Course(Orders orders, int neverOpen) {
            this.orders = orders;
            this.neverOpen = neverOpen;
        }

        int siltOf(int hatch) {
            return carried[hatch] / WATER_TO_SILT;
        }

        int mostOf(int hatch) {
            return Math.max(0, orders.widthOf[hatch] - siltOf(hatch) / SILT_TO_WIDTH);
        }

        void passHour(int hour) {
            int water = orders.flowNow;
            brought += water;
            for (int h = 0; h < orders.hatches; h++) {
                takeIn(h, water);
                // All but what the panes drink is in the stream again behind the hatch.
                water -= soakPanes(h);
                tendPanes(h, hour);
            }
            atMill = water;
            milled += water;
            if (isMillShort(hour)) {
                millBroken++;
            }
        }

        boolean isMillShort(int hour) {
            return atMill < orders.rightAt(hour);
        }

        int sumOfFarm(int[] ofPanes, int farm) {
            int sum = 0;
            for (int h = 0; h < orders.hatches; h++) {
                if (orders.farmOf[h] == farm) {
                    for (int p = 0; p < orders.panesOf[h]; p++) {
                        sum += ofPanes[placeOf(h, p)];
                    }
                }
            }
            return sum;
        }

        private void takeIn(int hatch, int water) {
            int quarters = hatch == neverOpen ? 0 : orders.quartersOf[hatch];
            took[hatch] = Math.min(water * quarters / QUARTERS, mostOf(hatch));
            carried[hatch] += took[hatch];
        }

        /** Shares out what the hatch took: what its panes drank of it together. */
        private int soakPanes(int hatch) {
            int panes = orders.panesOf[hatch];
            // No hatch is without a pane, but a divisor is looked at before it divides.
            if (panes < 1) {
                return 0;
            }
            int share = took[hatch] / panes;
            int rest = took[hatch] % panes;
            int together = 0;
            for (int p = 0; p < panes; p++) {
                int at = placeOf(hatch, p);
                got[at] = p < rest ? share + 1 : share;
                int sip = Math.min(got[at], THIRST);
                drank[at] += sip;
                together += sip;
            }
            drunk += together;
            return together;
        }

        private void tendPanes(int hatch, int hour) {
            boolean grazing = orders.isGrazing(hour);
            for (int p = 0; p < orders.panesOf[hatch]; p++) {
                int at = placeOf(hatch, p);
                growGrass(at);
                if (grazing) {
                    grazePane(at);
                }
            }
        }

        private void growGrass(int at) {
            boolean wet = got[at] > 0;
            if (wet) {
                wetHours[at]++;
            }
            int warmth = wet ? Math.max(orders.airNow, WET_WARMTH) : orders.airNow;
            if (warmth > GROWTH_ABOVE) {
                grass[at] = Math.min(MOST_GRASS, grass[at] + warmth - GROWTH_ABOVE);
            } else if (warmth < 0) {
                // A wet pane is never this cold, so only dry ones in frost come here.
                grass[at] = Math.max(0, grass[at] - 1);
            }
        }

        private void grazePane(int at) {
            int bite = Math.min(orders.sheepOn[at], grass[at]);
            grass[at] -= bite;
            eaten[at] += bite;
        }
    }
}
