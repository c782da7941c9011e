import java.util.Arrays;

/** Crowds that drive to a shadow and home again; the numbered promises stand in DOC.md. */
public final class ShadowRoads {
    public static final int NONE = -1;

    private static final int HOURS = 200;
    private static final int MOST_TOWNS = 10;
    private static final int MOST_ROADS = 16;
    private static final int MOST_CROWDS = 8;
    private static final int MOST_FAR = 99;
    private static final int MOST_WATER = 1000000;
    private static final int MOST_CLOUDS = 100;
    private static final int MOST_HALF = 100;
    private static final int FIRST_HALF = 50;
    private static final int MOST_ROAD_CARS = 5000;
    private static final int MOST_ROAD_HOURS = 9;
    private static final int MOST_CROWD_CARS = 20000;
    private static final int MOST_DAWN_HOURS = 20;
    private static final int MOST_GO = 50;
    private static final int MOST_PLANNED = 4;
    private static final int FEW_PARTS = 32;
    // A part is made by a crowd let go, or by a road that lets only some of one go: 8 + 16 roads *
    // 200 hours of them at most, and in one hour not more than there are crowds and roads.
    private static final int MOST_PARTS = 4096;
    private static final int PARTS_AN_HOUR = MOST_CROWDS + MOST_ROADS;

    private final Towns towns;
    private final Net net;
    private final Crowds crowds;
    private final Traffic truth;
    private final Log[] logs;
    private final Foresight foresight;

    public ShadowRoads() {
        towns = new Towns();
        net = new Net();
        crowds = new Crowds();
        truth = new Traffic(towns, net, crowds);
        logs = new Log[MOST_ROADS];
        foresight = new Foresight(truth, new Traffic(towns, net, crowds));
    }

    public int town(int far, int water) {
        if (!within(far, 0, MOST_FAR) || !within(water, 0, MOST_WATER) || towns.count >= MOST_TOWNS) {
            return NONE;
        }
        int number = towns.add(far);
        truth.water[number] = water;
        foresight.forget();
        return number;
    }

    public boolean path(int w) {
        if (!within(w, 1, MOST_HALF)) {
            return false;
        }
        towns.half = w;
        return true;
    }

    public int seconds(int town) {
        return towns.has(town) ? towns.darkness(town) : NONE;
    }

    public boolean clouds(int town, int parts) {
        if (!towns.has(town) || !within(parts, 0, MOST_CLOUDS)) {
            return false;
        }
        towns.clouds[town] = parts;
        return true;
    }

    public int road(int from, int to, int cars, int hours) {
        if (truth.now != 0 || net.count >= MOST_ROADS || !areTwoTowns(from, to)) {
            return NONE;
        }
        if (!within(cars, 1, MOST_ROAD_CARS) || !within(hours, 1, MOST_ROAD_HOURS)) {
            return NONE;
        }
        int number = net.add(from, to, cars, hours);
        logs[number] = new Log();
        foresight.forget();
        return number;
    }

    public int least(int from, int to) {
        return towns.has(from) && towns.has(to) ? net.leastHours(from, to) : NONE;
    }

    public int crowd(int town, int cars, int home) {
        if (truth.now != 0 || crowds.count >= MOST_CROWDS || !areTwoTowns(town, home)) {
            return NONE;
        }
        if (!within(cars, 1, MOST_CROWD_CARS) || net.leastHours(town, home) == NONE) {
            return NONE;
        }
        int number = crowds.add(town, cars, home);
        truth.there[town] += cars;
        foresight.forget();
        return number;
    }

    public int dawn(int hours) {
        if (truth.now != 0 || !within(hours, 0, MOST_DAWN_HOURS)) {
            return NONE;
        }
        int turned = 0;
        for (int c = 0; c < crowds.count; c++) {
            int here = crowds.town[c];
            int there = bestSight(here, crowds.home[c], hours);
            if (there != here) {
                truth.there[here] -= crowds.cars[c];
                truth.there[there] += crowds.cars[c];
                crowds.town[c] = there;
                turned++;
            }
        }
        foresight.forget();
        return turned;
    }

    public boolean hold(int crowd, int hour) {
        if (!crowds.has(crowd) || truth.isLetGo(crowd) || !within(hour, truth.now, HOURS - 1)) {
            return false;
        }
        truth.hour[crowd] = hour;
        foresight.forget();
        return true;
    }

    public boolean shut(int road, int from, int to) {
        if (!net.has(road) || from < truth.now || to <= from) {
            return false;
        }
        net.shutFrom[road] = from;
        net.shutTo[road] = to;
        foresight.forget();
        return true;
    }

    public int go(int n) {
        if (!within(n, 0, MOST_GO)) {
            return NONE;
        }
        for (int i = 0; i < n && truth.now < HOURS; i++) {
            truth.driveAnHour();
            logTheHour();
            truth.drinkAnHour();
            truth.now++;
            foresight.forget();
        }
        return truth.now;
    }

    public int queue(int road) {
        return net.has(road) ? truth.queued(road) : NONE;
    }

    public int on(int road) {
        return net.has(road) ? truth.driving(road) : NONE;
    }

    public int foretold(int what) {
        switch (what) {
            case 0:
                foresight.foresee();
                return foresight.last;
            case 1:
                foresight.foresee();
                return foresight.carHours;
            default:
                return NONE;
        }
    }

    public int lacks(int town) {
        if (!towns.has(town)) {
            return NONE;
        }
        foresight.foresee();
        return foresight.lackHour[town];
    }

    public int plan(int crowd) {
        if (!crowds.has(crowd)) {
            return NONE;
        }
        foresight.makePlan();
        return foresight.bestHour(crowd);
    }

    public int planned(int what) {
        switch (what) {
            case 0:
                foresight.makePlan();
                return foresight.hasPlan() ? foresight.bestLast : NONE;
            case 1:
                foresight.makePlan();
                return foresight.hasPlan() ? foresight.bestWaited : NONE;
            default:
                return NONE;
        }
    }

    public boolean counted(int road, int hour, int cars) {
        Log log = logOf(road);
        if (log == null || !isOver(hour) || !within(cars, NONE, MOST_ROAD_CARS)) {
            return false;
        }
        log.counted[hour] = cars;
        return true;
    }

    public int came(int road, int from, int to, int what) {
        Log log = logOf(road);
        if (log == null || !isOver(from) || !isOver(to) || from > to) {
            return NONE;
        }
        switch (what) {
            case 0:
                return log.atLeast(from, to);
            case 1:
                return log.atMost(from, to);
            default:
                return NONE;
        }
    }

    public int out(int road, int hour) {
        Log log = logOf(road);
        return log != null && isOver(hour) ? log.gone[hour] : NONE;
    }

    public int told(int crowd, int what) {
        if (!crowds.has(crowd)) {
            return NONE;
        }
        switch (what) {
            case 0:
                return crowds.town[crowd];
            case 1:
                return crowds.cars[crowd];
            case 2:
                return crowds.home[crowd];
            case 3:
                return truth.hour[crowd];
            case 4:
                return truth.homeCars[crowd];
            case 5:
                return truth.lastHourOf(crowd);
            default:
                return NONE;
        }
    }

    public int at(int town, int what) {
        if (!towns.has(town)) {
            return NONE;
        }
        switch (what) {
            case 0:
                return truth.water[town];
            case 1:
                return truth.there[town];
            case 2:
                return truth.lacked[town];
            default:
                return NONE;
        }
    }

    public int count(int what) {
        switch (what) {
            case 0:
                return truth.now;
            case 1:
                return towns.count;
            case 2:
                return net.count;
            case 3:
                return crowds.count;
            case 4:
                return truth.allHome;
            case 5:
                return truth.allQueued();
            case 6:
                return truth.waited;
            default:
                return NONE;
        }
    }

    private static boolean within(int value, int low, int high) {
        return value >= low && value <= high;
    }

    private boolean areTwoTowns(int one, int other) {
        return towns.has(one) && towns.has(other) && one != other;
    }

    private boolean isOver(int hour) {
        return hour >= 0 && hour < truth.now && hour < HOURS;
    }

    private Log logOf(int road) {
        return net.has(road) ? logs[road] : null;
    }

    private void logTheHour() {
        for (int r = 0; r < net.count; r++) {
            Log log = logs[r];
            if (log != null) {
                log.note(truth.now, truth.gone[r], net.lets(r, truth.now));
            }
        }
    }

    /** The town that a crowd turns to at dawn; the one where it is, if none lets it see more. */
    private int bestSight(int here, int home, int hours) {
        int best = here;
        for (int t = 0; t < towns.count; t++) {
            int away = net.leastHours(here, t);
            boolean near = away != NONE && away <= hours;
            if (near && t != home && net.leastHours(t, home) != NONE) {
                int more = towns.sight(t) - towns.sight(best);
                if (more > 0 || (more == 0 && away < net.leastHours(here, best))) {
                    best = t;
                }
            }
        }
        return best;
    }

    /** The towns as the sky sees them. */
    private static final class Towns {
        final int[] far = new int[MOST_TOWNS];
        final int[] clouds = new int[MOST_TOWNS];
        int half = FIRST_HALF;
        int count;

        boolean has(int town) {
            return town >= 0 && town < count;
        }

        int add(int howFar) {
            far[count] = howFar;
            return count++;
        }

        int darkness(int town) {
            int rest = half * half - far[town] * far[town];
            for (int root = half; root > 0; root--) {
                if (root * root <= rest) {
                    return root * 3;
                }
            }
            return 0;
        }

        int sight(int town) {
            return darkness(town) * (MOST_CLOUDS - clouds[town]);
        }
    }

    /** The roads, and the shortest ways over them. */
    private static final class Net {
        final int[] from = new int[MOST_ROADS];
        final int[] to = new int[MOST_ROADS];
        final int[] cars = new int[MOST_ROADS];
        final int[] hours = new int[MOST_ROADS];
        final int[] shutFrom = new int[MOST_ROADS];
        final int[] shutTo = new int[MOST_ROADS];
        final int[] least = new int[MOST_TOWNS * MOST_TOWNS];
        final int[] way = new int[MOST_TOWNS * MOST_TOWNS];
        int count;

        Net() {
            Arrays.fill(way, NONE);
            Arrays.fill(least, NONE);
            for (int t = 0; t < MOST_TOWNS; t++) {
                least[t * MOST_TOWNS + t] = 0;
            }
        }

        boolean has(int road) {
            return road >= 0 && road < count;
        }

        int add(int start, int end, int many, int takes) {
            from[count] = start;
            to[count] = end;
            cars[count] = many;
            hours[count] = takes;
            count++;
            shorten(start, end, takes);
            findWays();
            return count - 1;
        }

        int leastHours(int start, int end) {
            return least[start * MOST_TOWNS + end];
        }

        /** The road on which the way to a home goes on. */
        int nextRoad(int town, int home) {
            return way[town * MOST_TOWNS + home];
        }

        boolean isShut(int road, int hour) {
            return hour >= shutFrom[road] && hour < shutTo[road];
        }

        int lets(int road, int hour) {
            return isShut(road, hour) ? 0 : cars[road];
        }

        // No shortest way uses the new road twice, so one pass over all pairs is enough.
        private void shorten(int start, int end, int takes) {
            for (int i = 0; i < MOST_TOWNS; i++) {
                int before = leastHours(i, start);
                for (int j = 0; j < MOST_TOWNS && before != NONE; j++) {
                    int behind = leastHours(end, j);
                    int old = leastHours(i, j);
                    if (behind != NONE && (old == NONE || before + takes + behind < old)) {
                        least[i * MOST_TOWNS + j] = before + takes + behind;
                    }
                }
            }
        }

        // Downwards, so that of several roads the least number is what stays.
        private void findWays() {
            for (int r = count - 1; r >= 0; r--) {
                for (int j = 0; j < MOST_TOWNS; j++) {
                    int behind = leastHours(to[r], j);
                    if (behind != NONE && hours[r] + behind == leastHours(from[r], j)) {
                        way[from[r] * MOST_TOWNS + j] = r;
                    }
                }
            }
        }
    }

    /** What of a crowd doesn't change while hours go. */
    private static final class Crowds {
        final int[] town = new int[MOST_CROWDS];
        final int[] cars = new int[MOST_CROWDS];
        final int[] home = new int[MOST_CROWDS];
        int count;
        int allCars;

        boolean has(int crowd) {
            return crowd >= 0 && crowd < count;
        }

        int add(int where, int many, int whither) {
            town[count] = where;
            cars[count] = many;
            home[count] = whither;
            allCars += many;
            return count++;
        }
    }

    /**
     * Lines of cars, each first in, first out: of each road its queue and its drive. Cars of one
     * crowd are all alike, so a line is a chain of parts (a crowd and how many). All lines share
     * one store, so that what goes from line to line needs no more room in it.
     */
    private static final class Lines {
        final int[] first = new int[2 * MOST_ROADS];
        final int[] last = new int[2 * MOST_ROADS];
        final int[] sum = new int[2 * MOST_ROADS];
        int[] crowd = new int[FEW_PARTS];
        int[] cars = new int[FEW_PARTS];
        int[] due = new int[FEW_PARTS];
        int[] next = new int[FEW_PARTS];
        int used;
        int free = NONE;

        Lines() {
            Arrays.fill(first, NONE);
            Arrays.fill(last, NONE);
        }

        static int queueOf(int road) {
            return road;
        }

        static int driveOf(int road) {
            return MOST_ROADS + road;
        }

        boolean isEmpty(int line) {
            return first[line] == NONE;
        }

        boolean isDue(int line, int hour) {
            int part = first[line];
            return part != NONE && due[part] == hour;
        }

        int firstCrowd(int line) {
            int part = first[line];
            return part == NONE ? NONE : crowd[part];
        }

        int firstCars(int line) {
            int part = first[line];
            return part == NONE ? 0 : cars[part];
        }

        void append(int line, int who, int many, int hour) {
            int end = last[line];
            if (end != NONE && crowd[end] == who && due[end] == hour) {
                sum[line] += many;
                cars[end] += many;
                return;
            }
            int part = newPart();
            if (part == NONE) {
                return;
            }
            sum[line] += many;
            crowd[part] = who;
            cars[part] = many;
            due[part] = hour;
            next[part] = NONE;
            if (end == NONE) {
                first[line] = part;
            } else {
                next[end] = part;
            }
            last[line] = part;
        }

        /** Takes cars away from the first part of a line, not more than it has. */
        void take(int line, int many) {
            int part = first[line];
            if (part == NONE) {
                return;
            }
            sum[line] -= many;
            cars[part] -= many;
            if (cars[part] > 0) {
                return;
            }
            first[line] = next[part];
            if (first[line] == NONE) {
                last[line] = NONE;
            }
            next[part] = free;
            free = part;
        }

        /** Room for all parts that an hour can make. */
        void makeRoomForAnHour() {
            if (used + PARTS_AN_HOUR > crowd.length) {
                makeRoom(Math.min(2 * crowd.length, MOST_PARTS));
            }
        }

        void copyFrom(Lines other) {
            if (crowd.length < other.used) {
                makeRoom(other.crowd.length);
            }
            System.arraycopy(other.first, 0, first, 0, first.length);
            System.arraycopy(other.last, 0, last, 0, last.length);
            System.arraycopy(other.sum, 0, sum, 0, sum.length);
            System.arraycopy(other.crowd, 0, crowd, 0, other.used);
            System.arraycopy(other.cars, 0, cars, 0, other.used);
            System.arraycopy(other.due, 0, due, 0, other.used);
            System.arraycopy(other.next, 0, next, 0, other.used);
            used = other.used;
            free = other.free;
        }

        private int newPart() {
            if (free != NONE) {
                int part = free;
                free = next[part];
                return part;
            }
            return used < crowd.length ? used++ : NONE;
        }

        private void makeRoom(int parts) {
            crowd = Arrays.copyOf(crowd, parts);
            cars = Arrays.copyOf(cars, parts);
            due = Arrays.copyOf(due, parts);
            next = Arrays.copyOf(next, parts);
        }
    }

    /** All that changes while hours go: once as it is in truth, once more to try what will be. */
    private static final class Traffic {
        final Towns towns;
        final Net net;
        final Crowds crowds;
        final Lines lines = new Lines();
        final int[] hour = new int[MOST_CROWDS];
        final int[] homeCars = new int[MOST_CROWDS];
        final int[] cameHome = new int[MOST_CROWDS];
        final int[] there = new int[MOST_TOWNS];
        final int[] water = new int[MOST_TOWNS];
        final int[] lacked = new int[MOST_TOWNS];
        final int[] gone = new int[MOST_ROADS];
        int now;
        int allHome;
        int lastHome = NONE;
        int waited;

        Traffic(Towns theTowns, Net theNet, Crowds theCrowds) {
            towns = theTowns;
            net = theNet;
            crowds = theCrowds;
        }

        boolean isLetGo(int crowd) {
            return hour[crowd] < now;
        }

        boolean areAllHome() {
            return allHome == crowds.allCars;
        }

        int lastHourOf(int crowd) {
            return homeCars[crowd] == crowds.cars[crowd] ? cameHome[crowd] : NONE;
        }

        /** The hour in which the last car of all came home; as long as not all did, there is none. */
        int lastHourOfAll() {
            return areAllHome() ? lastHome : NONE;
        }

        int queued(int road) {
            return lines.sum[Lines.queueOf(road)];
        }

        int driving(int road) {
            return lines.sum[Lines.driveOf(road)];
        }

        int allQueued() {
            int all = 0;
            for (int r = 0; r < net.count; r++) {
                all += queued(r);
            }
            return all;
        }

        /** The parts (1), (2) and (3) of an hour. */
        void driveAnHour() {
            lines.makeRoomForAnHour();
            comeToTowns();
            letCrowdsGo();
            setOut();
        }

        /** The part (4) of an hour. */
        void drinkAnHour() {
            for (int t = 0; t < towns.count; t++) {
                int taken = Math.min(there[t], water[t]);
                water[t] -= taken;
                lacked[t] += there[t] - taken;
            }
        }

        void copyFrom(Traffic other) {
            lines.copyFrom(other.lines);
            System.arraycopy(other.hour, 0, hour, 0, MOST_CROWDS);
            System.arraycopy(other.homeCars, 0, homeCars, 0, MOST_CROWDS);
            System.arraycopy(other.cameHome, 0, cameHome, 0, MOST_CROWDS);
            System.arraycopy(other.there, 0, there, 0, MOST_TOWNS);
            System.arraycopy(other.water, 0, water, 0, MOST_TOWNS);
            System.arraycopy(other.lacked, 0, lacked, 0, MOST_TOWNS);
            now = other.now;
            allHome = other.allHome;
            lastHome = other.lastHome;
            waited = other.waited;
        }

        private void comeToTowns() {
            for (int r = 0; r < net.count; r++) {
                int drive = Lines.driveOf(r);
                int town = net.to[r];
                for (int i = 0; i < MOST_PARTS && lines.isDue(drive, now); i++) {
                    int who = lines.firstCrowd(drive);
                    int many = lines.firstCars(drive);
                    lines.take(drive, many);
                    there[town] += many;
                    if (town == crowds.home[who]) {
                        comeHome(who, many);
                    } else {
                        queueUp(town, who, many);
                    }
                }
            }
        }

        private void comeHome(int who, int many) {
            homeCars[who] += many;
            cameHome[who] = now;
            allHome += many;
            lastHome = now;
        }

        private void queueUp(int town, int who, int many) {
            int road = net.nextRoad(town, crowds.home[who]);
            if (road != NONE) {
                lines.append(Lines.queueOf(road), who, many, 0);
            }
        }

        private void letCrowdsGo() {
            for (int c = 0; c < crowds.count; c++) {
                if (hour[c] == now) {
                    queueUp(crowds.town[c], c, crowds.cars[c]);
                }
            }
        }

        // No car comes to a queue behind (2), so each road's wait is known once it has let go.
        private void setOut() {
            for (int r = 0; r < net.count; r++) {
                int queue = Lines.queueOf(r);
                gone[r] = lines.isEmpty(queue) ? 0 : setOutOn(r, net.lets(r, now));
                waited += lines.sum[queue];
            }
        }

        private int setOutOn(int road, int most) {
            int queue = Lines.queueOf(road);
            int out = 0;
            for (int i = 0; i < MOST_PARTS && out < most && !lines.isEmpty(queue); i++) {
                int who = lines.firstCrowd(queue);
                int many = Math.min(lines.firstCars(queue), most - out);
                lines.take(queue, many);
                lines.append(Lines.driveOf(road), who, many, now + net.hours[road]);
                out += many;
            }
            there[net.from[road]] -= out;
            return out;
        }
    }

    /** What is known of a road's hours that are over. */
    private static final class Log {
        final int[] gone = new int[HOURS];
        final int[] lets = new int[HOURS];
        final int[] counted = new int[HOURS];

        Log() {
            Arrays.fill(counted, NONE);
        }

        // What the road let go is kept too: a later span takes the place of the one that shut it.
        void note(int hour, int out, int most) {
            if (hour >= 0 && hour < HOURS) {
                gone[hour] = out;
                lets[hour] = most;
            }
        }

        int atLeast(int from, int to) {
            int sum = 0;
            for (int h = from; h <= to && h < HOURS; h++) {
                sum += counted[h] == NONE ? 0 : counted[h];
            }
            return sum;
        }

        int atMost(int from, int to) {
            int sum = 0;
            for (int h = from; h <= to && h < HOURS; h++) {
                sum += counted[h] == NONE ? lets[h] : counted[h];
            }
            return sum;
        }
    }

    /** FORETOLD and PLAN; what was worked out is kept until something is told or hours go. */
    private static final class Foresight {
        final Traffic truth;
        final Traffic trial;
        final int[] lackHour = new int[MOST_TOWNS];
        final int[] waiting = new int[MOST_PLANNED];
        final int[] bestStep = new int[MOST_PLANNED];
        boolean foreseen;
        int last;
        int carHours;
        boolean planMade;
        int waitingCount;
        int bestLast;
        int bestWaited;

        Foresight(Traffic theTruth, Traffic theTrial) {
            truth = theTruth;
            trial = theTrial;
        }

        void forget() {
            foreseen = false;
            planMade = false;
        }

        boolean hasPlan() {
            return waitingCount > 0;
        }

        /** The hour that the plan has for a crowd; NONE, if it isn't one of the plan. */
        int bestHour(int crowd) {
            for (int i = 0; i < waitingCount; i++) {
                if (waiting[i] == crowd) {
                    return truth.now + bestStep[i];
                }
            }
            return NONE;
        }

        void foresee() {
            if (foreseen) {
                return;
            }
            foreseen = true;
            trial.copyFrom(truth);
            Arrays.fill(lackHour, NONE);
            for (int h = truth.now; h < HOURS; h++) {
                trial.driveAnHour();
                noteLacks();
                trial.drinkAnHour();
                trial.now++;
            }
            last = trial.lastHourOfAll();
            carHours = trial.waited - truth.waited;
        }

        void makePlan() {
            if (planMade) {
                return;
            }
            planMade = true;
            findWaiting();
            if (!hasPlan()) {
                return;
            }
            bestLast = HOURS;
            bestWaited = Integer.MAX_VALUE;
            // Two bits a crowd, the first crowd's highest: counting up goes as PLAN puts them.
            int ways = 1 << (2 * waitingCount);
            for (int w = 0; w < ways; w++) {
                if (isWithinHours(w)) {
                    tryWay(w);
                }
            }
        }

        private void noteLacks() {
            for (int t = 0; t < MOST_TOWNS; t++) {
                if (lackHour[t] == NONE && trial.there[t] > trial.water[t]) {
                    lackHour[t] = trial.now;
                }
            }
        }

        /** The crowds to plan for; none, if they are more than a plan takes. */
        private void findWaiting() {
            waitingCount = 0;
            for (int c = 0; c < truth.crowds.count; c++) {
                if (!truth.isLetGo(c)) {
                    if (waitingCount >= MOST_PLANNED) {
                        waitingCount = 0;
                        return;
                    }
                    waiting[waitingCount] = c;
                    waitingCount++;
                }
            }
        }

        private int stepOf(int way, int place) {
            return (way >> (2 * (waitingCount - 1 - place))) & 3;
        }

        // Behind 199 there is no hour in which a crowd could be let go.
        private boolean isWithinHours(int way) {
            for (int i = 0; i < waitingCount; i++) {
                if (truth.now + stepOf(way, i) >= HOURS) {
                    return false;
                }
            }
            return true;
        }

        private void tryWay(int way) {
            trial.copyFrom(truth);
            for (int i = 0; i < waitingCount; i++) {
                trial.hour[waiting[i]] = truth.now + stepOf(way, i);
            }
            // What isn't home by the best last hour can't be better; nobody waits when all are home.
            for (int h = truth.now; h < HOURS && h <= bestLast && !trial.areAllHome(); h++) {
                trial.driveAnHour();
                trial.now++;
            }
            int end = trial.areAllHome() ? trial.lastHome : HOURS;
            int wait = trial.waited - truth.waited;
            if (end < bestLast || (end == bestLast && wait < bestWaited)) {
                keepWay(way, end, wait);
            }
        }

        private void keepWay(int way, int end, int wait) {
            bestLast = end;
            bestWaited = wait;
            for (int i = 0; i < waitingCount; i++) {
                bestStep[i] = stepOf(way, i);
            }
        }
    }
}
