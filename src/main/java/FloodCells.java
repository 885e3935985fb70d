import java.util.Arrays;

/**
 * A flood desk: a river in stretches, cells behind dikes, sandbags, walkers, and people who leave by roads.
 * The words used here (stretch, place, bar ..) are those of the document.
 */
public final class FloodCells {
    public static final int NONE = -1;

    private static final int END = 100;
    private static final int MOST_BODIES = 10;
    private static final int MOST_DIKES = 12;
    private static final int MOST_ROADS = 12;
    private static final int MOST_REPORTS = 100;
    private static final int MOST_AREA = 1000;
    private static final int MOST_FLOOR = 1000;
    private static final int MOST_PEOPLE = 500;
    private static final int MOST_WORTH = 1000000;
    private static final int MOST_CREST = 2000;
    private static final int MOST_WIDTH = 1000;
    private static final int MOST_DELAY = 20;
    private static final int MOST_FLOW = 1000000;
    private static final int MOST_BAGS_AT_ONCE = 10000;
    private static final int MOST_BAGS_IN_PIT = 100000;
    private static final int MOST_SEEP = 99;
    private static final int MOST_BORNE = 99;
    private static final int MOST_ROAD_HOURS = 5;

    private final Bodies bodies;
    private final Dikes dikes;
    private final Roads roads;
    private final Reports reports;
    private final Flood flood;
    private final Forecast forecast;
    private final Flight flight;
    private int bagsInPit;

    public FloodCells() {
        bodies = new Bodies();
        dikes = new Dikes();
        roads = new Roads();
        reports = new Reports();
        flood = new Flood();
        forecast = new Forecast();
        flight = new Flight();
        bagsInPit = 0;
    }

    public int stretch(int area, int floor, int passes) {
        if (!bodies.canTake(area, floor) || !within(passes, 0, 100)) {
            return NONE;
        }
        int number = bodies.addStretch(area, floor, passes);
        waterChanges();
        return number;
    }

    public int cell(int area, int floor, int people, int worth) {
        if (!bodies.canTake(area, floor) || !within(people, 0, MOST_PEOPLE) || !within(worth, 0, MOST_WORTH)) {
            return NONE;
        }
        int number = bodies.addCell(area, floor, people, worth);
        waterChanges();
        return number;
    }

    public int dike(int a, int b, int crest, int width, int hours) {
        if (!bodies.has(a) || !bodies.has(b) || a == b || dikes.count >= MOST_DIKES) {
            return NONE;
        }
        if (!within(crest, 0, MOST_CREST) || !within(width, 1, MOST_WIDTH) || !within(hours, 0, MOST_DELAY)) {
            return NONE;
        }
        int number = dikes.add(a, b, crest, width, hours);
        waterChanges();
        return number;
    }

    public boolean breach(int dike, int hour, int sill) {
        if (!dikes.has(dike) || !hourToCome(hour) || !within(sill, 0, dikes.crest[dike])) {
            return false;
        }
        if (brokeBefore(dike)) {
            return false;
        }
        dikes.breachHour[dike] = hour;
        dikes.sill[dike] = sill;
        waterChanges();
        return true;
    }

    public boolean flows(int hour, int water) {
        if (!hourToCome(hour) || !within(water, 0, MOST_FLOW)) {
            return false;
        }
        bodies.inflow[hour] = water;
        waterChanges();
        return true;
    }

    public int pit(int bags) {
        if (!within(bags, 1, MOST_BAGS_AT_ONCE) || bagsInPit + bags > MOST_BAGS_IN_PIT) {
            return NONE;
        }
        bagsInPit += bags;
        return bagsInPit;
    }

    public int send(int dike, int n) {
        if (!canSend(dike, n)) {
            return NONE;
        }
        int hour = flood.hour + dikes.hours[dike];
        bagsInPit -= n;
        dikes.bringBags(dike, hour, n);
        waterChanges();
        return hour;
    }

    public boolean tell(int dike, int seep, int hours) {
        if (!dikes.has(dike) || !within(seep, 0, MOST_SEEP) || !within(hours, 0, MOST_DELAY)) {
            return false;
        }
        return reports.add(dike, seep, flood.hour + hours);
    }

    public int known(int dike) {
        return dikes.has(dike) ? reports.latest(dike, flood.hour) : NONE;
    }

    public int worst() {
        int worst = NONE;
        int most = NONE;
        for (int i = 0; i < dikes.count; i++) {
            int seep = reports.latest(i, flood.hour);
            if (seep > most) {
                most = seep;
                worst = i;
            }
        }
        return worst;
    }

    public int road(int from, int to, int bears, int hours) {
        if (!bodies.hasCell(from) || from == to || (to != NONE && !bodies.hasCell(to))) {
            return NONE;
        }
        if (!within(bears, 1, MOST_BORNE) || !within(hours, 1, MOST_ROAD_HOURS) || roads.count >= MOST_ROADS) {
            return NONE;
        }
        int number = roads.add(from, to, bears, hours);
        flight.forget();
        return number;
    }

    public int go(int n) {
        if (!within(n, 0, END)) {
            return NONE;
        }
        for (int i = 0; i < n && flood.hour < END; i++) {
            flood.passHour(bodies, dikes);
        }
        waterChanges();
        return flood.hour;
    }

    public boolean people(int cell, int n) {
        if (!bodies.hasCell(cell) || !within(n, 0, MOST_PEOPLE)) {
            return false;
        }
        bodies.people[cell] = n;
        flight.forget();
        return true;
    }

    public int told(int body, int what) {
        if (!bodies.has(body)) {
            return NONE;
        }
        boolean isCell = bodies.isCell[body];
        switch (what) {
            case 0:
                return flood.water[body];
            case 1:
                return flood.level(bodies, body);
            case 2:
                return bodies.area[body];
            case 3:
                return bodies.floor[body];
            case 4:
                return isCell ? NONE : bodies.passes[body];
            case 5:
                return isCell ? bodies.people[body] : NONE;
            case 6:
                return isCell ? bodies.worth[body] : NONE;
            case 7:
                return flood.isWet(bodies, body) ? 1 : 0;
            default:
                return NONE;
        }
    }

    public int crest(int dike, int what) {
        if (!dikes.has(dike)) {
            return NONE;
        }
        switch (what) {
            case 0:
                return flood.top(dikes, dike);
            case 1:
                return flood.bags[dike];
            case 2:
                return dikes.bagsUnderWay(dike, flood.hour);
            case 3:
                return brokeBefore(dike) ? 1 : 0;
            default:
                return NONE;
        }
    }

    public int wet(int cell) {
        if (!bodies.hasCell(cell)) {
            return NONE;
        }
        forecast.foresee(bodies, dikes, flood);
        return forecast.firstWet(bodies, cell, flood.hour);
    }

    public int foretold(int body, int hour) {
        if (!bodies.has(body) || !within(hour, flood.hour, END)) {
            return NONE;
        }
        forecast.foresee(bodies, dikes, flood);
        return forecast.waterAt(body, hour);
    }

    public int loss() {
        return forecast.lossFrom(bodies, dikes, flood);
    }

    public int best(int n) {
        int best = NONE;
        int least = 0;
        for (int i = 0; i < dikes.count; i++) {
            if (canSend(i, n)) {
                int lost = lossWithBags(i, n);
                if (best == NONE || lost < least) {
                    best = i;
                    least = lost;
                }
            }
        }
        return best;
    }

    public int leave(int hour) {
        if (!within(hour, flood.hour, END)) {
            return NONE;
        }
        readyFlight();
        flight.runTo(roads, hour);
        return flight.gone[hour];
    }

    public int soonest() {
        readyFlight();
        flight.runTo(roads, END);
        return flight.firstHourOfMost();
    }

    public int bars(int hour) {
        if (!within(hour, flood.hour, END)) {
            return NONE;
        }
        readyBars(hour);
        return flight.barCount;
    }

    public int bar(int hour, int i, int what) {
        if (!within(hour, flood.hour, END) || !within(what, 0, 1)) {
            return NONE;
        }
        readyBars(hour);
        if (i < 0 || i >= flight.barCount) {
            return NONE;
        }
        return what == 0 ? flight.barRoad(i) : flight.barHour(i);
    }

    public int count(int what) {
        switch (what) {
            case 0:
                return flood.hour;
            case 1:
                return bodies.count;
            case 2:
                return dikes.count;
            case 3:
                return roads.count;
            case 4:
                return bagsInPit;
            case 5:
                return allBagsUnderWay();
            case 6:
                return flood.bagsOnDikes();
            case 7:
                return flood.washed;
            case 8:
                return flood.wentOut;
            case 9:
                return flood.cameIn;
            default:
                return NONE;
        }
    }

    private static boolean within(int value, int least, int most) {
        return value >= least && value <= most;
    }

    private boolean hourToCome(int hour) {
        return hour >= flood.hour && hour < END;
    }

    /** A breach told for the very hour that is now can still be told anew: that hour hasn't passed. */
    private boolean brokeBefore(int dike) {
        return dikes.isBreached(dike, flood.hour - 1);
    }

    private boolean canSend(int dike, int n) {
        return dikes.has(dike) && within(n, 1, bagsInPit) && hourToCome(flood.hour + dikes.hours[dike]);
    }

    private int allBagsUnderWay() {
        int sum = 0;
        for (int i = 0; i < dikes.count; i++) {
            sum += dikes.bagsUnderWay(i, flood.hour);
        }
        return sum;
    }

    /** The bags are only lent to the dike, so that what is asked changes nothing. */
    private int lossWithBags(int dike, int n) {
        int hour = flood.hour + dikes.hours[dike];
        dikes.bringBags(dike, hour, n);
        int lost = forecast.lossFrom(bodies, dikes, flood);
        dikes.bringBags(dike, hour, -n);
        return lost;
    }

    private void waterChanges() {
        forecast.forget();
        flight.forget();
    }

    private void readyFlight() {
        if (!flight.isFresh) {
            forecast.foresee(bodies, dikes, flood);
            flight.begin(bodies, forecast, flood.hour);
        }
    }

    private void readyBars(int hour) {
        if (flight.isFresh && flight.barsFor == hour) {
            return;
        }
        // The flow only grows: for an hour that it has gone past it must be built anew.
        if (flight.reached > hour) {
            flight.forget();
        }
        readyFlight();
        flight.runTo(roads, hour);
        flight.findBars(roads, hour);
    }

    /** Stretches and cells by their numbers, and what flows to the first stretch. */
    private static final class Bodies {
        final boolean[] isCell = new boolean[MOST_BODIES];
        final int[] area = new int[MOST_BODIES];
        final int[] floor = new int[MOST_BODIES];
        final int[] passes = new int[MOST_BODIES];
        final int[] people = new int[MOST_BODIES];
        final int[] worth = new int[MOST_BODIES];
        final int[] stretches = new int[MOST_BODIES];
        final int[] inflow = new int[END];
        int count = 0;
        int stretchCount = 0;

        boolean has(int body) {
            return body >= 0 && body < count;
        }

        boolean hasCell(int body) {
            return has(body) && isCell[body];
        }

        boolean canTake(int newArea, int newFloor) {
            return count < MOST_BODIES && within(newArea, 1, MOST_AREA) && within(newFloor, 0, MOST_FLOOR);
        }

        int addStretch(int newArea, int newFloor, int newPasses) {
            int number = add(newArea, newFloor);
            passes[number] = newPasses;
            stretches[stretchCount] = number;
            stretchCount++;
            return number;
        }

        int addCell(int newArea, int newFloor, int newPeople, int newWorth) {
            int number = add(newArea, newFloor);
            isCell[number] = true;
            people[number] = newPeople;
            worth[number] = newWorth;
            return number;
        }

        private int add(int newArea, int newFloor) {
            int number = count;
            area[number] = newArea;
            floor[number] = newFloor;
            count++;
            return number;
        }
    }

    /** Dikes by their numbers, with the breaches that are told and the bags that come to them by hours. */
    private static final class Dikes {
        final int[] a = new int[MOST_DIKES];
        final int[] b = new int[MOST_DIKES];
        final int[] crest = new int[MOST_DIKES];
        final int[] width = new int[MOST_DIKES];
        final int[] hours = new int[MOST_DIKES];
        final int[] sill = new int[MOST_DIKES];
        final int[] breachHour = new int[MOST_DIKES];
        final int[] coming = new int[MOST_DIKES * END];
        int count = 0;

        boolean has(int dike) {
            return dike >= 0 && dike < count;
        }

        int add(int newA, int newB, int newCrest, int newWidth, int newHours) {
            int number = count;
            a[number] = newA;
            b[number] = newB;
            crest[number] = newCrest;
            width[number] = newWidth;
            hours[number] = newHours;
            breachHour[number] = NONE;
            count++;
            return number;
        }

        boolean isBreached(int dike, int hour) {
            return breachHour[dike] != NONE && breachHour[dike] <= hour;
        }

        void bringBags(int dike, int hour, int n) {
            if (hour >= 0 && hour < END) {
                coming[dike * END + hour] += n;
            }
        }

        int bagsUnderWay(int dike, int now) {
            int sum = 0;
            for (int hour = now; hour < END; hour++) {
                sum += coming[dike * END + hour];
            }
            return sum;
        }
    }

    /** Roads by their numbers, and by the cells where they begin and end. */
    private static final class Roads {
        final int[] from = new int[MOST_ROADS];
        final int[] to = new int[MOST_ROADS];
        final int[] bears = new int[MOST_ROADS];
        final int[] hours = new int[MOST_ROADS];
        final int[] leading = new int[MOST_BODIES * MOST_ROADS];
        final int[] leadingCount = new int[MOST_BODIES];
        final int[] coming = new int[MOST_BODIES * MOST_ROADS];
        final int[] comingCount = new int[MOST_BODIES];
        int count = 0;

        int add(int newFrom, int newTo, int newBears, int newHours) {
            int number = count;
            from[number] = newFrom;
            to[number] = newTo;
            bears[number] = newBears;
            hours[number] = newHours;
            leading[newFrom * MOST_ROADS + leadingCount[newFrom]] = number;
            leadingCount[newFrom]++;
            if (newTo != NONE) {
                coming[newTo * MOST_ROADS + comingCount[newTo]] = number;
                comingCount[newTo]++;
            }
            count++;
            return number;
        }
    }

    /** What walkers told, in the order in which they told it. */
    private static final class Reports {
        private final int[] dike = new int[MOST_REPORTS];
        private final int[] seep = new int[MOST_REPORTS];
        private final int[] knownFrom = new int[MOST_REPORTS];
        private int count = 0;

        boolean add(int ofDike, int newSeep, int hour) {
            if (count >= MOST_REPORTS) {
                return false;
            }
            dike[count] = ofDike;
            seep[count] = newSeep;
            knownFrom[count] = hour;
            count++;
            return true;
        }

        int latest(int ofDike, int now) {
            for (int i = count - 1; i >= 0; i--) {
                if (dike[i] == ofDike && knownFrom[i] <= now) {
                    return seep[i];
                }
            }
            return NONE;
        }
    }

    /** Water and bags as an hour begins. */
    private static final class Flood {
        final int[] water = new int[MOST_BODIES];
        final int[] bags = new int[MOST_DIKES];
        int hour = 0;
        int washed = 0;
        int wentOut = 0;
        int cameIn = 0;

        void copyFrom(Flood other) {
            System.arraycopy(other.water, 0, water, 0, MOST_BODIES);
            System.arraycopy(other.bags, 0, bags, 0, MOST_DIKES);
            hour = other.hour;
            washed = other.washed;
            wentOut = other.wentOut;
            cameIn = other.cameIn;
        }

        int level(Bodies bodies, int body) {
            int area = bodies.area[body];
            return area < 1 ? bodies.floor[body] : bodies.floor[body] + water[body] / area;
        }

        boolean isWet(Bodies bodies, int body) {
            return bodies.isCell[body] && water[body] >= bodies.area[body];
        }

        int top(Dikes dikes, int dike) {
            return dikes.isBreached(dike, hour) ? dikes.sill[dike] : dikes.crest[dike] + bags[dike] / 10;
        }

        int bagsOnDikes() {
            int sum = 0;
            for (int i = 0; i < MOST_DIKES; i++) {
                sum += bags[i];
            }
            return sum;
        }

        void passHour(Bodies bodies, Dikes dikes) {
            if (hour >= END) {
                return;
            }
            takeInflow(bodies);
            passDown(bodies);
            for (int i = 0; i < dikes.count; i++) {
                layBags(dikes, i);
            }
            for (int i = 0; i < dikes.count; i++) {
                goOver(bodies, dikes, i);
            }
            hour++;
        }

        private void takeInflow(Bodies bodies) {
            if (bodies.stretchCount > 0) {
                int flow = bodies.inflow[hour];
                water[bodies.stretches[0]] += flow;
                cameIn += flow;
            }
        }

        /** From the last one up, so that no water passes two stretches in an hour. */
        private void passDown(Bodies bodies) {
            int last = bodies.stretchCount - 1;
            for (int i = last; i >= 0; i--) {
                int body = bodies.stretches[i];
                int passing = (int) ((long) water[body] * bodies.passes[body] / 100);
                water[body] -= passing;
                if (i == last) {
                    wentOut += passing;
                } else {
                    water[bodies.stretches[i + 1]] += passing;
                }
            }
        }

        private void layBags(Dikes dikes, int dike) {
            bags[dike] += dikes.coming[dike * END + hour];
            if (dikes.isBreached(dike, hour)) {
                washed += bags[dike];
                bags[dike] = 0;
            }
        }

        private void goOver(Bodies bodies, Dikes dikes, int dike) {
            int upper = dikes.a[dike];
            int lower = dikes.b[dike];
            int upperLevel = level(bodies, upper);
            int lowerLevel = level(bodies, lower);
            if (upperLevel < lowerLevel) {
                upper = dikes.b[dike];
                lower = dikes.a[dike];
                int level = upperLevel;
                upperLevel = lowerLevel;
                lowerLevel = level;
            }
            long head = upperLevel - Math.max(top(dikes, dike), lowerLevel);
            if (head > 0) {
                long over = Math.min(dikes.width[dike] * head, head * bodies.area[upper] / 2);
                int going = (int) Math.min(over, (long) water[upper]);
                water[upper] -= going;
                water[lower] += going;
            }
        }
    }

    /** What would be, hour by hour, if nothing more were told or sent. */
    private static final class Forecast {
        private final Flood trial = new Flood();
        private final int[] water = new int[(END + 1) * MOST_BODIES];
        private boolean isFresh = false;

        void forget() {
            isFresh = false;
        }

        void foresee(Bodies bodies, Dikes dikes, Flood flood) {
            if (isFresh) {
                return;
            }
            trial.copyFrom(flood);
            for (int hour = flood.hour; hour <= END; hour++) {
                System.arraycopy(trial.water, 0, water, hour * MOST_BODIES, MOST_BODIES);
                trial.passHour(bodies, dikes);
            }
            isFresh = true;
        }

        int waterAt(int body, int hour) {
            return water[hour * MOST_BODIES + body];
        }

        boolean isWet(Bodies bodies, int cell, int hour) {
            return waterAt(cell, hour) >= bodies.area[cell];
        }

        int firstWet(Bodies bodies, int cell, int now) {
            for (int hour = now; hour <= END; hour++) {
                if (isWet(bodies, cell, hour)) {
                    return hour;
                }
            }
            return NONE;
        }

        /** Keeps nothing of the hours, so that bags can be tried while what is foretold stays as it is. */
        int lossFrom(Bodies bodies, Dikes dikes, Flood flood) {
            int everWet = 0;
            trial.copyFrom(flood);
            for (int hour = flood.hour; hour <= END; hour++) {
                for (int i = 0; i < bodies.count; i++) {
                    if (trial.isWet(bodies, i)) {
                        everWet |= 1 << i;
                    }
                }
                trial.passHour(bodies, dikes);
            }
            int sum = 0;
            for (int i = 0; i < bodies.count; i++) {
                sum += (everWet >> i & 1) * bodies.worth[i];
            }
            return sum;
        }
    }

    /**
     * The greatest flow of people OUT, grown hour by hour of their coming OUT: what is the greatest for an hour
     * stays a part of the greatest for the next one, so one growth answers for all hours up to where it has come.
     */
    private static final class Flight {
        private static final int PLACES = (END + 1) * MOST_BODIES;
        private static final int UNSEEN = 0;
        // Nobody can come to a place that is cut off, now or when the flow has grown.
        private static final int CUT_OFF = -1;
        private static final int UNDER_WATER = -2;
        // Steps from a place towards OUT; a step back takes so many from a wait or a road that had them.
        private static final int WAIT = 0;
        private static final int UNWAIT = 1;
        private static final int TAKE = 2;
        private static final int UNTAKE = TAKE + MOST_ROADS;

        private final int[] gone = new int[END + 1];
        private final int[] left = new int[MOST_BODIES];
        private final int[] waiting = new int[PLACES];
        private final int[] taking = new int[MOST_ROADS * END];
        private final int[] mark = new int[PLACES];
        private final int[] step = new int[PLACES];
        private final int[] stack = new int[PLACES];
        private final int[] seen = new int[PLACES];
        private final int[] barList = new int[MOST_ROADS * END];
        private int stackSize = 0;
        private int seenCount = 0;
        private int search = 0;
        private int now = 0;
        private int allGone = 0;
        int reached = NONE;
        int barsFor = NONE;
        int barCount = 0;
        boolean isFresh = false;

        void forget() {
            isFresh = false;
        }

        void begin(Bodies bodies, Forecast forecast, int hourNow) {
            now = hourNow;
            Arrays.fill(waiting, 0);
            Arrays.fill(taking, 0);
            System.arraycopy(bodies.people, 0, left, 0, MOST_BODIES);
            for (int hour = now; hour <= END; hour++) {
                for (int cell = 0; cell < bodies.count; cell++) {
                    mark[hour * MOST_BODIES + cell] = forecast.isWet(bodies, cell, hour) ? UNDER_WATER : UNSEEN;
                }
            }
            search = 0;
            allGone = 0;
            reached = now - 1;
            barsFor = NONE;
            barCount = 0;
            isFresh = true;
        }

        void runTo(Roads roads, int hour) {
            for (int t = reached + 1; t <= hour && t <= END; t++) {
                for (int road = 0; road < roads.count; road++) {
                    if (roads.to[road] == NONE) {
                        fillRoadOut(roads, road, t - roads.hours[road]);
                    }
                }
                gone[t] = allGone;
                reached = t;
            }
        }

        int firstHourOfMost() {
            int most = gone[END];
            if (most < 1) {
                return NONE;
            }
            for (int hour = now; hour < END; hour++) {
                if (gone[hour] == most) {
                    return hour;
                }
            }
            return END;
        }

        private void fillRoadOut(Roads roads, int road, int hour) {
            if (hour < now) {
                return;
            }
            int place = hour * MOST_BODIES + roads.from[road];
            int bears = roads.bears[road];
            for (int i = 0; i < bears && taking[road * END + hour] < bears; i++) {
                int start = findPeople(roads, place, TAKE + road);
                if (start == NONE) {
                    return;
                }
                int n = roomFrom(roads, start);
                left[start % MOST_BODIES] -= n;
                moveFrom(roads, start, n);
                allGone += n;
            }
        }

        /** From behind, from the place where a road OUT begins: a place of NOW with people left, or NONE. */
        private int findPeople(Roads roads, int place, int firstStep) {
            beginSearch();
            meet(place, firstStep);
            for (int i = 0; i < PLACES && stackSize > 0; i++) {
                stackSize--;
                int at = stack[stackSize];
                if (at / MOST_BODIES == now && left[at % MOST_BODIES] > 0) {
                    return at;
                }
                meetThoseBehind(roads, at);
            }
            for (int i = 0; i < seenCount; i++) {
                mark[seen[i]] = CUT_OFF;
            }
            return NONE;
        }

        private void beginSearch() {
            search++;
            stackSize = 0;
            seenCount = 0;
        }

        private void meet(int place, int stepAhead) {
            if (place < 0 || place >= PLACES || seenCount >= PLACES || stackSize >= PLACES) {
                return;
            }
            int was = mark[place];
            if (was < UNSEEN || was == search) {
                return;
            }
            mark[place] = search;
            step[place] = stepAhead;
            stack[stackSize] = place;
            stackSize++;
            seen[seenCount] = place;
            seenCount++;
        }

        /** Those from which one could come to a place; what is met last is looked at first. */
        private void meetThoseBehind(Roads roads, int place) {
            int cell = place % MOST_BODIES;
            int hour = place / MOST_BODIES;
            if (hour < END) {
                if (waiting[place] > 0) {
                    meet(place + MOST_BODIES, UNWAIT);
                }
                for (int i = 0; i < roads.leadingCount[cell]; i++) {
                    int road = roads.leading[cell * MOST_ROADS + i];
                    if (roads.to[road] != NONE && taking[road * END + hour] > 0) {
                        meet(endOf(roads, road, hour), UNTAKE + road);
                    }
                }
            }
            for (int i = 0; i < roads.comingCount[cell]; i++) {
                int road = roads.coming[cell * MOST_ROADS + i];
                int start = hour - roads.hours[road];
                if (start >= now && taking[road * END + start] < roads.bears[road]) {
                    meet(start * MOST_BODIES + roads.from[road], TAKE + road);
                }
            }
            if (hour > now) {
                meet(place - MOST_BODIES, WAIT);
            }
        }

        private int endOf(Roads roads, int road, int hour) {
            return (hour + roads.hours[road]) * MOST_BODIES + roads.to[road];
        }

        private int roomFrom(Roads roads, int start) {
            int room = left[start % MOST_BODIES];
            int place = start;
            for (int i = 0; i < PLACES && place != NONE; i++) {
                room = Math.min(room, roomOfStep(roads, place));
                place = placeAhead(roads, place);
            }
            return room;
        }

        private void moveFrom(Roads roads, int start, int n) {
            int place = start;
            for (int i = 0; i < PLACES && place != NONE; i++) {
                int ahead = placeAhead(roads, place);
                moveStep(roads, place, n);
                place = ahead;
            }
        }

        /** Where the step from a place leads; NONE is OUT. */
        private int placeAhead(Roads roads, int place) {
            int kind = step[place];
            if (kind == WAIT) {
                return place + MOST_BODIES;
            }
            if (kind == UNWAIT) {
                return place - MOST_BODIES;
            }
            int hour = place / MOST_BODIES;
            if (kind < UNTAKE) {
                int road = kind - TAKE;
                return roads.to[road] == NONE ? NONE : endOf(roads, road, hour);
            }
            int road = kind - UNTAKE;
            return (hour - roads.hours[road]) * MOST_BODIES + roads.from[road];
        }

        private int roomOfStep(Roads roads, int place) {
            int kind = step[place];
            if (kind == WAIT) {
                return MOST_PEOPLE;
            }
            if (kind == UNWAIT) {
                return waiting[place - MOST_BODIES];
            }
            int hour = place / MOST_BODIES;
            if (kind < UNTAKE) {
                int road = kind - TAKE;
                return roads.bears[road] - taking[road * END + hour];
            }
            int road = kind - UNTAKE;
            return taking[road * END + hour - roads.hours[road]];
        }

        private void moveStep(Roads roads, int place, int n) {
            int kind = step[place];
            int hour = place / MOST_BODIES;
            if (kind == WAIT) {
                waiting[place] += n;
            } else if (kind == UNWAIT) {
                waiting[place - MOST_BODIES] -= n;
            } else if (kind < UNTAKE) {
                taking[(kind - TAKE) * END + hour] += n;
            } else {
                int road = kind - UNTAKE;
                taking[road * END + hour - roads.hours[road]] -= n;
            }
        }

        /** The least of the cheapest heaps is just what those still left can reach beside the greatest flow. */
        void findBars(Roads roads, int hour) {
            beginSearch();
            for (int cell = 0; cell < MOST_BODIES; cell++) {
                if (left[cell] > 0) {
                    meet(now * MOST_BODIES + cell, WAIT);
                }
            }
            for (int i = 0; i < PLACES && stackSize > 0; i++) {
                stackSize--;
                meetThoseAhead(roads, stack[stackSize], hour);
            }
            listBars(roads, hour);
            barsFor = hour;
        }

        private void meetThoseAhead(Roads roads, int place, int lastHour) {
            int cell = place % MOST_BODIES;
            int hour = place / MOST_BODIES;
            if (hour < lastHour) {
                meet(place + MOST_BODIES, WAIT);
            }
            if (hour > now && waiting[place - MOST_BODIES] > 0) {
                meet(place - MOST_BODIES, UNWAIT);
            }
            for (int i = 0; i < roads.leadingCount[cell]; i++) {
                int road = roads.leading[cell * MOST_ROADS + i];
                boolean ends = roads.to[road] != NONE && hour + roads.hours[road] <= lastHour;
                if (ends && taking[road * END + hour] < roads.bears[road]) {
                    meet(endOf(roads, road, hour), TAKE + road);
                }
            }
            for (int i = 0; i < roads.comingCount[cell]; i++) {
                int road = roads.coming[cell * MOST_ROADS + i];
                int start = hour - roads.hours[road];
                if (start >= now && taking[road * END + start] > 0) {
                    meet(start * MOST_BODIES + roads.from[road], UNTAKE + road);
                }
            }
        }

        private void listBars(Roads roads, int lastHour) {
            barCount = 0;
            for (int hour = now; hour < lastHour; hour++) {
                for (int road = 0; road < roads.count; road++) {
                    if (hour + roads.hours[road] <= lastHour && isBar(roads, road, hour)) {
                        barList[barCount] = hour * MOST_ROADS + road;
                        barCount++;
                    }
                }
            }
        }

        private boolean isBar(Roads roads, int road, int hour) {
            if (mark[hour * MOST_BODIES + roads.from[road]] != search) {
                return false;
            }
            if (roads.to[road] == NONE) {
                return true;
            }
            int end = mark[endOf(roads, road, hour)];
            return end != UNDER_WATER && end != search;
        }

        int barRoad(int i) {
            return barList[i] % MOST_ROADS;
        }

        int barHour(int i) {
            return barList[i] / MOST_ROADS;
        }
    }
}
