import java.util.ArrayList;
import java.util.List;

/** Made-up runs, each call answered by ShadowRoads and by a plain model that moves each car by itself. */
public final class ModelTest {
    private static final int NONE = -1;
    private static final int RUNS = 120;
    private static final String[] NAMES = {"town", "path", "seconds", "clouds", "road", "least", "crowd", "dawn",
        "hold", "shut", "go", "queue", "on", "foretold", "lacks", "plan", "planned", "counted", "came", "out",
        "told", "at", "count"};
    private static final int[] ARGUMENTS = {2, 1, 1, 2, 4, 2, 3, 1, 2, 3, 1, 1, 1, 1, 1, 1, 1, 3, 4, 2, 2, 2, 1};

    /** One car: its crowd, where it is, and since when. */
    private static final class Car {
        final int crowd;
        int town;
        boolean home;
        boolean letGo;
        int road = NONE;
        boolean driving;
        int due;
        long ticket;

        Car(int crowd, int town) {
            this.crowd = crowd;
            this.town = town;
        }

        Car copy() {
            Car c = new Car(crowd, town);
            c.home = home;
            c.letGo = letGo;
            c.road = road;
            c.driving = driving;
            c.due = due;
            c.ticket = ticket;
            return c;
        }
    }

    private static final class Model {
        int now;
        int half = 50;
        int waited;
        long tickets;
        List<int[]> towns = new ArrayList<>();   // far, water, clouds, lacked, first lack
        List<int[]> roads = new ArrayList<>();   // from, to, cars, hours, shut from, shut to
        List<int[]> crowds = new ArrayList<>();  // town, cars, home, hour, last hour
        List<Car> cars = new ArrayList<>();
        int[][] gone = new int[16][200];
        boolean[][] wasShut = new boolean[16][200];
        int[][] counters = new int[16][200];

        Model() {
            for (int[] row : counters) {
                java.util.Arrays.fill(row, NONE);
            }
        }

        static List<int[]> copyRows(List<int[]> rows) {
            List<int[]> copies = new ArrayList<>();
            for (int[] row : rows) {
                copies.add(row.clone());
            }
            return copies;
        }

        Model copy() {
            Model m = new Model();
            m.now = now;
            m.half = half;
            m.tickets = tickets;
            m.towns = copyRows(towns);
            m.roads = copyRows(roads);
            m.crowds = copyRows(crowds);
            for (int[] t : m.towns) {
                t[4] = NONE;
            }
            for (Car c : cars) {
                m.cars.add(c.copy());
            }
            return m;
        }

        boolean isTown(int t) {
            return t >= 0 && t < towns.size();
        }

        boolean isRoad(int r) {
            return r >= 0 && r < roads.size();
        }

        boolean isCrowd(int c) {
            return c >= 0 && c < crowds.size();
        }

        boolean isOver(int h) {
            return h >= 0 && h < now;
        }

        int seconds(int t) {
            int far = towns.get(t)[0];
            if (far >= half) {
                return 0;
            }
            int root = 0;
            while ((root + 1) * (root + 1) <= half * half - far * far) {
                root++;
            }
            return 3 * root;
        }

        int[] leastTo(int goal) {
            int[] d = new int[towns.size()];
            java.util.Arrays.fill(d, 1000);
            d[goal] = 0;
            for (int i = 0; i < towns.size(); i++) {
                for (int[] r : roads) {
                    d[r[0]] = Math.min(d[r[0]], r[3] + d[r[1]]);
                }
            }
            return d;
        }

        int least(int from, int to) {
            int d = leastTo(to)[from];
            return d >= 1000 ? NONE : d;
        }

        int[] wayTo(int goal) {
            int[] d = leastTo(goal);
            int[] way = new int[towns.size()];
            for (int t = 0; t < way.length; t++) {
                way[t] = NONE;
                for (int r = 0; r < roads.size() && way[t] == NONE && d[t] < 1000; r++) {
                    int[] road = roads.get(r);
                    if (road[0] == t && road[3] + d[road[1]] == d[t]) {
                        way[t] = r;
                    }
                }
            }
            return way;
        }

        int dawn(int hours) {
            int turned = 0;
            for (int c = 0; c < crowds.size(); c++) {
                int[] crowd = crowds.get(c);
                List<int[]> goals = new ArrayList<>();
                for (int t = 0; t < towns.size(); t++) {
                    int away = least(crowd[0], t);
                    if (t != crowd[2] && least(t, crowd[2]) != NONE && away != NONE && away <= hours) {
                        goals.add(new int[] {-seconds(t) * (100 - towns.get(t)[2]), away, t});
                    }
                }
                goals.sort((a, b) -> java.util.Arrays.compare(a, b));
                int[] best = goals.get(0);
                if (-best[0] > seconds(crowd[0]) * (100 - towns.get(crowd[0])[2])) {
                    turned++;
                    crowd[0] = best[2];
                    for (Car car : cars) {
                        if (car.crowd == c) {
                            car.town = best[2];
                        }
                    }
                }
            }
            return turned;
        }

        boolean isShut(int[] road) {
            return road[4] <= now && now < road[5];
        }

        void queueUp(Car car, int[][] ways) {
            car.letGo = true;
            car.driving = false;
            car.road = ways[car.crowd][car.town];
            car.ticket = tickets++;
        }

        void hour() {
            int[][] ways = new int[crowds.size()][];
            for (int c = 0; c < ways.length; c++) {
                ways[c] = wayTo(crowds.get(c)[2]);
            }
            List<Car> coming = new ArrayList<>();
            for (Car c : cars) {
                if (c.driving && c.due == now) {
                    coming.add(c);
                }
            }
            coming.sort((a, b) -> a.road != b.road ? a.road - b.road : Long.compare(a.ticket, b.ticket));
            for (Car c : coming) {
                c.town = roads.get(c.road)[1];
                if (c.town == crowds.get(c.crowd)[2]) {
                    c.home = true;
                    c.driving = false;
                    c.road = NONE;
                    crowds.get(c.crowd)[4] = now;
                } else {
                    queueUp(c, ways);
                }
            }
            for (Car c : cars) {
                if (!c.letGo && crowds.get(c.crowd)[3] == now) {
                    queueUp(c, ways);
                }
            }
            for (int r = 0; r < roads.size(); r++) {
                setOut(r);
            }
            for (Car c : cars) {
                waited += c.road != NONE && !c.driving ? 1 : 0;
            }
            for (Car c : cars) {
                if (!c.driving) {
                    drink(towns.get(c.town));
                }
            }
            now++;
        }

        void setOut(int r) {
            int[] road = roads.get(r);
            wasShut[r][now] = isShut(road);
            List<Car> queue = new ArrayList<>();
            for (Car c : cars) {
                if (c.road == r && !c.driving) {
                    queue.add(c);
                }
            }
            queue.sort((a, b) -> Long.compare(a.ticket, b.ticket));
            for (int i = 0; i < queue.size() && i < road[2] && !isShut(road); i++) {
                Car c = queue.get(i);
                c.driving = true;
                c.due = now + road[3];
                gone[r][now]++;
            }
        }

        void drink(int[] town) {
            if (town[1] > 0) {
                town[1]--;
                return;
            }
            town[3]++;
            if (town[4] == NONE) {
                town[4] = now;
            }
        }

        int homeOf(int crowd) {
            int n = 0;
            for (Car c : cars) {
                n += c.home && (crowd == NONE || c.crowd == crowd) ? 1 : 0;
            }
            return n;
        }

        int lastOfAll() {
            int last = NONE;
            for (int[] c : crowds) {
                last = Math.max(last, c[4]);
            }
            return homeOf(NONE) == cars.size() ? last : NONE;
        }

        Model future() {
            Model m = copy();
            while (m.now < 200) {
                m.hour();
            }
            return m;
        }

        /** The best way: last hour, car-hours, then an hour for each crowd (NONE if let go); null if none. */
        int[] plan() {
            List<Integer> open = new ArrayList<>();
            for (int c = 0; c < crowds.size(); c++) {
                if (crowds.get(c)[3] >= now) {
                    open.add(c);
                }
            }
            if (open.isEmpty() || open.size() > 4) {
                return null;
            }
            List<int[]> all = new ArrayList<>();
            int[] hours = new int[crowds.size() + 2];
            java.util.Arrays.fill(hours, NONE);
            tryAll(open, 0, hours, all);
            all.sort((a, b) -> java.util.Arrays.compare(a, b));
            return all.get(0);
        }

        void tryAll(List<Integer> open, int k, int[] hours, List<int[]> all) {
            if (k == open.size()) {
                Model m = copy();
                for (int c : open) {
                    m.crowds.get(c)[3] = hours[c + 2];
                }
                while (m.now < 200 && m.homeOf(NONE) < m.cars.size()) {
                    m.hour();
                }
                int[] row = hours.clone();
                row[0] = m.lastOfAll() == NONE ? 200 : m.lastOfAll();
                row[1] = m.waited;
                all.add(row);
                return;
            }
            for (int h = now; h <= now + 3 && h <= 199; h++) {
                hours[open.get(k) + 2] = h;
                tryAll(open, k + 1, hours, all);
            }
        }

        static boolean in(int v, int low, int high) {
            return v >= low && v <= high;
        }

        int addTown(int far, int water) {
            if (!in(far, 0, 99) || !in(water, 0, 1000000) || towns.size() == 10) {
                return NONE;
            }
            towns.add(new int[] {far, water, 0, 0, NONE});
            return towns.size() - 1;
        }

        int addRoad(int[] a) {
            if (!isTown(a[0]) || !isTown(a[1]) || a[0] == a[1] || !in(a[2], 1, 5000) || !in(a[3], 1, 9)
                || roads.size() == 16 || now != 0) {
                return NONE;
            }
            roads.add(new int[] {a[0], a[1], a[2], a[3], 0, 0});
            return roads.size() - 1;
        }

        int addCrowd(int[] a) {
            if (!isTown(a[0]) || !isTown(a[2]) || a[0] == a[2] || !in(a[1], 1, 20000) || least(a[0], a[2]) == NONE
                || crowds.size() == 8 || now != 0) {
                return NONE;
            }
            crowds.add(new int[] {a[0], a[1], a[2], 0, NONE});
            for (int i = 0; i < a[1]; i++) {
                cars.add(new Car(crowds.size() - 1, a[0]));
            }
            return crowds.size() - 1;
        }

        int go(int n) {
            if (!in(n, 0, 50)) {
                return NONE;
            }
            for (int i = 0; i < n && now < 200; i++) {
                hour();
            }
            return now;
        }

        int hold(int c, int h) {
            if (!isCrowd(c) || crowds.get(c)[3] < now || !in(h, now, 199)) {
                return 0;
            }
            crowds.get(c)[3] = h;
            return 1;
        }

        int shut(int r, int from, int to) {
            if (!isRoad(r) || from < now || to <= from) {
                return 0;
            }
            roads.get(r)[4] = from;
            roads.get(r)[5] = to;
            return 1;
        }

        int onRoad(int r, boolean driving) {
            int n = 0;
            for (Car c : cars) {
                n += c.road == r && c.driving == driving ? 1 : 0;
            }
            return isRoad(r) ? n : NONE;
        }

        int came(int r, int from, int to, int what) {
            if (!isRoad(r) || from > to || !isOver(from) || !isOver(to) || !in(what, 0, 1)) {
                return NONE;
            }
            int sum = 0;
            for (int h = from; h <= to; h++) {
                int gap = what == 0 || wasShut[r][h] ? 0 : roads.get(r)[2];
                sum += counters[r][h] == NONE ? gap : counters[r][h];
            }
            return sum;
        }

        int counted(int r, int h, int n) {
            if (!isRoad(r) || !isOver(h) || !in(n, -1, 5000)) {
                return 0;
            }
            counters[r][h] = n;
            return 1;
        }

        int told(int c, int what) {
            if (!isCrowd(c) || !in(what, 0, 5)) {
                return NONE;
            }
            int[] crowd = crowds.get(c);
            if (what == 5) {
                return homeOf(c) == crowd[1] ? crowd[4] : NONE;
            }
            return what == 4 ? homeOf(c) : crowd[what];
        }

        int at(int t, int what) {
            if (!isTown(t) || !in(what, 0, 2)) {
                return NONE;
            }
            int there = 0;
            for (Car c : cars) {
                there += c.town == t && !c.driving ? 1 : 0;
            }
            return what == 0 ? towns.get(t)[1] : what == 1 ? there : towns.get(t)[3];
        }

        int count(int what) {
            int queued = 0;
            for (Car c : cars) {
                queued += c.road != NONE && !c.driving ? 1 : 0;
            }
            int[] counts = {now, towns.size(), roads.size(), crowds.size(), homeOf(NONE), queued, waited};
            return in(what, 0, 6) ? counts[what] : NONE;
        }

        int setHalf(int w) {
            half = in(w, 1, 100) ? w : half;
            return in(w, 1, 100) ? 1 : 0;
        }

        int setClouds(int t, int parts) {
            if (!isTown(t) || !in(parts, 0, 100)) {
                return 0;
            }
            towns.get(t)[2] = parts;
            return 1;
        }

        int planOf(int c) {
            int[] best = isCrowd(c) ? plan() : null;
            return best == null ? NONE : best[c + 2];
        }

        int planned(int what) {
            int[] best = in(what, 0, 1) ? plan() : null;
            return best == null ? NONE : best[what];
        }

        int foretold(int what) {
            return what == 0 ? future().lastOfAll() : what == 1 ? future().waited : NONE;
        }

        int answer(int call, int[] a) {
            switch (call) {
                case 0: return addTown(a[0], a[1]);
                case 1: return setHalf(a[0]);
                case 2: return isTown(a[0]) ? seconds(a[0]) : NONE;
                case 3: return setClouds(a[0], a[1]);
                case 4: return addRoad(a);
                case 5: return isTown(a[0]) && isTown(a[1]) ? least(a[0], a[1]) : NONE;
                case 6: return addCrowd(a);
                case 7: return now == 0 && in(a[0], 0, 20) ? dawn(a[0]) : NONE;
                case 8: return hold(a[0], a[1]);
                case 9: return shut(a[0], a[1], a[2]);
                case 10: return go(a[0]);
                case 11: return onRoad(a[0], false);
                case 12: return onRoad(a[0], true);
                case 13: return foretold(a[0]);
                case 14: return isTown(a[0]) ? future().towns.get(a[0])[4] : NONE;
                case 15: return planOf(a[0]);
                case 16: return planned(a[0]);
                case 17: return counted(a[0], a[1], a[2]);
                case 18: return came(a[0], a[1], a[2], a[3]);
                case 19: return isRoad(a[0]) && isOver(a[1]) ? gone[a[0]][a[1]] : NONE;
                case 20: return told(a[0], a[1]);
                case 21: return at(a[0], a[1]);
                default: return count(a[0]);
            }
        }
    }

    private static int bit(boolean b) {
        return b ? 1 : 0;
    }

    private static int ask(ShadowRoads x, int call, int[] a) {
        switch (call) {
            case 0: return x.town(a[0], a[1]);
            case 1: return bit(x.path(a[0]));
            case 2: return x.seconds(a[0]);
            case 3: return bit(x.clouds(a[0], a[1]));
            case 4: return x.road(a[0], a[1], a[2], a[3]);
            case 5: return x.least(a[0], a[1]);
            case 6: return x.crowd(a[0], a[1], a[2]);
            case 7: return x.dawn(a[0]);
            case 8: return bit(x.hold(a[0], a[1]));
            case 9: return bit(x.shut(a[0], a[1], a[2]));
            case 10: return x.go(a[0]);
            case 11: return x.queue(a[0]);
            case 12: return x.on(a[0]);
            case 13: return x.foretold(a[0]);
            case 14: return x.lacks(a[0]);
            case 15: return x.plan(a[0]);
            case 16: return x.planned(a[0]);
            case 17: return bit(x.counted(a[0], a[1], a[2]));
            case 18: return x.came(a[0], a[1], a[2], a[3]);
            case 19: return x.out(a[0], a[1]);
            case 20: return x.told(a[0], a[1]);
            case 21: return x.at(a[0], a[1]);
            default: return x.count(a[0]);
        }
    }

    /** Made-up calls, the same ones in every run of the tests. */
    private static final class Maker {
        long state;
        int plans;
        final int most;

        Maker(int seed) {
            state = seed * 7919L + 17;
            most = seed % 3 == 0 ? 4 : 12;
        }

        int below(int n) {
            state = state * 6364136223846793005L + 1442695040888963407L;
            return (int) ((state >>> 33) % n);
        }

        int number(int n) {
            return below(25) == 0 ? odd() : below(Math.max(1, n));
        }

        int odd() {
            int[] odds = {-1, -2, 1000, Integer.MAX_VALUE, Integer.MIN_VALUE, 199, 200, 16, 10, 8};
            return odds[below(odds.length)];
        }

        int town(Model m) {
            return number(m.towns.size());
        }

        int[] arguments(int call, Model m) {
            int t = town(m);
            int r = number(m.roads.size());
            int c = number(m.crowds.size());
            switch (call) {
                case 0: return new int[] {number(80), below(3) == 0 ? 100000 : number(400)};
                case 1: return new int[] {30 + number(72)};
                case 3: return new int[] {t, number(101)};
                case 4: return new int[] {t, town(m), 1 + number(most), 1 + number(below(2) == 0 ? 3 : 9)};
                case 5: return new int[] {t, town(m)};
                case 6: return new int[] {t, 1 + Math.min(number(30), 100), town(m)};
                case 7: return new int[] {number(21)};
                case 8: return new int[] {c, m.now + number(below(9) == 0 ? 200 : 12)};
                case 9: return shutting(r, m);
                case 10: return new int[] {number(below(12) == 0 ? 50 : 4)};
                case 13: case 16: return new int[] {number(2)};
                case 15: return new int[] {c};
                case 17: return new int[] {r, number(m.now), number(12) - 1};
                case 18: return hours(r, m);
                case 19: return new int[] {r, number(m.now + 1)};
                case 20: return new int[] {c, number(6)};
                case 21: return new int[] {t, number(3)};
                case 22: return new int[] {number(7)};
                default: return new int[] {call == 2 || call == 14 ? t : r};
            }
        }

        int[] shutting(int r, Model m) {
            int from = m.now + number(12);
            return new int[] {r, from, below(9) == 0 ? from : from + number(12)};
        }

        int[] hours(int r, Model m) {
            int from = number(m.now);
            return new int[] {r, from, below(9) == 0 ? number(m.now + 1) : Math.min(from, 300) + number(m.now - from), number(2)};
        }

        /** A call for step i: first mostly what builds towns, roads and crowds, then all else. */
        int call(int i) {
            if (i < 8) {
                return 0;
            }
            if (i < 26) {
                return 4;
            }
            if (i < 34 + below(4)) {
                return below(3) == 0 ? below(10) : 6;
            }
            int call = below(23);
            if (call == 15 || call == 16) {
                plans++;
                return plans > 6 ? 11 : call;
            }
            return call == 10 && i < 50 ? 8 : call;
        }
    }

    private static String shown(int call, int[] a) {
        List<String> parts = new ArrayList<>();
        for (int i = 0; i < ARGUMENTS[call]; i++) {
            parts.add(Integer.toString(a[i]));
        }
        return NAMES[call] + "(" + String.join(", ", parts) + ")";
    }

    private static boolean isLike(ShadowRoads x, Model m, int call, int[] useful, int... a) {
        int want = m.answer(call, a);
        useful[call] += want > 0 ? 1 : 0;
        boolean like = ask(x, call, a) == want;
        if (!like) {
            System.out.println(shown(call, a) + " isn't " + want);
        }
        return like;
    }

    /** Whether all that can be asked without a forecast is as the model's. */
    private static boolean isAllLike(ShadowRoads x, Model m, int[] useful) {
        boolean like = true;
        for (int what = 0; what < 7; what++) {
            like &= isLike(x, m, 22, useful, what);
        }
        for (int r = 0; r < m.roads.size(); r++) {
            like &= isLike(x, m, 11, useful, r) & isLike(x, m, 12, useful, r)
                & isLike(x, m, 19, useful, r, m.now - 1) & isLike(x, m, 18, useful, r, 0, m.now - 1, 1);
        }
        for (int t = 0; t < m.towns.size(); t++) {
            like &= isLike(x, m, 21, useful, t, 0) & isLike(x, m, 21, useful, t, 1) & isLike(x, m, 21, useful, t, 2);
        }
        for (int c = 0; c < m.crowds.size(); c++) {
            for (int what = 0; what < 6; what++) {
                like &= isLike(x, m, 20, useful, c, what);
            }
        }
        return like;
    }

    private static int run(int seed, int[] useful) {
        ShadowRoads x = new ShadowRoads();
        Model m = new Model();
        Maker maker = new Maker(seed);
        List<String> before = new ArrayList<>();
        for (int i = 0; i < 170; i++) {
            int call = maker.call(i);
            int[] a = maker.arguments(call, m);
            int want = m.answer(call, a);
            int got = ask(x, call, a);
            before.add(shown(call, a) + " " + want);
            useful[call] += want > 0 ? 1 : 0;
            if (got != want || (call == 10 && !isAllLike(x, m, useful))) {
                System.out.println("run " + seed + ": " + String.join("; ", before) + " but answered " + got);
                return 1;
            }
        }
        return 0;
    }

    public static void main(String[] args) {
        int wrong = 0;
        int[] useful = new int[NAMES.length];
        int runs = args.length > 0 ? Integer.parseInt(args[0]) : RUNS;
        for (int seed = 1; seed <= runs && wrong < 3; seed++) {
            wrong += run(seed, useful);
        }
        for (int call = 0; call < useful.length; call++) {
            if (useful[call] == 0) {
                System.out.println(NAMES[call] + " was never answered by more than 0");
                wrong++;
            }
        }
        if (args.length > 0) {
            System.out.println(java.util.Arrays.toString(useful));
        }
        System.out.println(wrong == 0 ? "all runs are as the model's" : wrong + " runs are not as the model's");
        if (wrong != 0) {
            System.exit(1);
        }
    }
}
