import java.util.ArrayList;
import java.util.List;
import java.util.function.Predicate;

/**
 * What is refused changes nothing. In each scene each call is made with every choice of values at the ends of what
 * can be and beyond them: it is refused where the document says so and nowhere else, and behind a refused call (and
 * behind each that only asks) a run answers as its twin does, for which the call was never made.
 */
public final class RefusedTest {
    private static final int NONE = Run.NONE;
    private static final int YES = Run.YES;
    private static final int NO = Run.NO;
    private static final int LOW = Run.LOW;
    private static final int HIGH = Run.HIGH;

    /** A call that was told: its name and its values. */
    private record Call(String name, int... a) {
        int on(Run r) {
            return r.call(name, a);
        }

        @Override
        public String toString() {
            return Run.text(name, a);
        }
    }

    /** Calls that lead to a state, and what is to be known of that state. */
    private static final class Scene {
        final String name;
        final List<Call> calls = new ArrayList<>();
        final boolean[][] reach = new boolean[10][10];
        final int[] hour = new int[8];
        int towns;
        int roads;
        int crowds;
        int now;

        Scene(String name) {
            this.name = name;
            for (int t = 0; t < 10; t++) {
                reach[t][t] = true;
            }
        }

        Scene with(String call, int... a) {
            calls.add(new Call(call, a));
            return this;
        }

        Scene town(int far, int water) {
            towns++;
            return with("town", far, water);
        }

        Scene road(int from, int to, int cars, int hours) {
            roads++;
            for (int i = 0; i < 10; i++) {
                for (int j = 0; j < 10; j++) {
                    reach[i][j] |= reach[i][from] && reach[to][j];
                }
            }
            return with("road", from, to, cars, hours);
        }

        Scene crowd(int town, int cars, int home) {
            crowds++;
            return with("crowd", town, cars, home);
        }

        Scene hold(int crowd, int till) {
            hour[crowd] = till;
            return with("hold", crowd, till);
        }

        Scene goTo(int till) {
            while (now < till) {
                int n = Math.min(50, till - now);
                now += n;
                with("go", n);
            }
            return this;
        }

        Run make() {
            Run r = new Run();
            for (Call c : calls) {
                int got = c.on(r);
                if (got == NONE || (got == NO && !c.name.equals("go") && !isNumbered(c.name))) {
                    Run.fault(name + ": " + c + " of the scene is refused");
                }
            }
            return r;
        }

        private static boolean isNumbered(String call) {
            return call.equals("town") || call.equals("road") || call.equals("crowd") || call.equals("dawn");
        }

        boolean isTown(int t) {
            return t >= 0 && t < towns;
        }

        boolean isRoad(int r) {
            return r >= 0 && r < roads;
        }

        boolean isCrowd(int c) {
            return c >= 0 && c < crowds;
        }

        boolean isOver(int h) {
            return h >= 0 && h < now;
        }
    }

    private static boolean in(int value, int low, int high) {
        return value >= low && value <= high;
    }

    // ---- scenes

    private static Scene nothing() {
        return new Scene("nothing");
    }

    private static Scene oneTown() {
        return new Scene("one town").town(20, 30);
    }

    /** A field, a better one, a dead end and two homes; of four crowds two are held. */
    private static Scene fields(String name) {
        Scene s = new Scene(name).town(30, 400).town(10, 90).town(0, 60).town(70, 25).town(99, 1000000);
        s.road(0, 1, 4, 2).road(1, 3, 5, 1).road(0, 3, 3, 4).road(0, 2, 9, 1).road(3, 4, 2, 3);
        s.crowd(0, 23, 3).crowd(1, 17, 4).crowd(0, 11, 4).crowd(3, 6, 4);
        s.with("path", 60).with("clouds", 0, 20).with("clouds", 1, 35).hold(2, 9).hold(3, 199);
        return s.with("shut", 1, 3, 6).with("shut", 4, 8, 12);
    }

    private static Scene start() {
        return fields("the hour 0");
    }

    private static Scene hourOne() {
        return fields("the hour 1").goTo(1).with("counted", 0, 0, 3);
    }

    private static Scene middle() {
        Scene s = fields("the hour 7").goTo(7).with("counted", 0, 0, 4).with("counted", 0, 6, 0);
        return s.with("counted", 1, 4, 5000).with("shut", 1, 8, 10);
    }

    private static Scene last() {
        return fields("the hour 199").goTo(199).with("counted", 0, 198, 7).with("shut", 4, 199, 200);
    }

    private static Scene over() {
        return fields("the hour 200").goTo(200).with("counted", 0, 199, 7).with("counted", 2, 0, 1);
    }

    /** Ten towns, sixteen roads and eight crowds. */
    private static Scene full(String name) {
        Scene s = new Scene(name);
        for (int t = 0; t < 10; t++) {
            s.town(11 * t, 300 * t);
        }
        for (int t = 0; t < 9; t++) {
            s.road(t, t + 1, 5 + t, 1 + t % 3);
        }
        for (int t = 0; t < 7; t++) {
            s.road(t, t + 2, 2, 4);
        }
        for (int c = 0; c < 8; c++) {
            s.crowd(c, 20 + 5 * c, 9);
        }
        return s.hold(6, 5).hold(7, 8).with("shut", 3, 2, 9);
    }

    private static Scene fullAtFirst() {
        return full("all full, the hour 0");
    }

    private static Scene fullLater() {
        return full("all full, the hour 6").goTo(6).with("counted", 15, 5, 2);
    }

    // ---- what tells the state

    private static List<Call> tells(Scene s) {
        List<Call> all = new ArrayList<>();
        addEach(all, "count", 7);
        addPairs(all, "told", s.crowds, 6);
        addPairs(all, "at", s.towns, 3);
        addEach(all, "queue", s.roads);
        addEach(all, "on", s.roads);
        addPairs(all, "least", s.towns, s.towns);
        addEach(all, "seconds", s.towns);
        addEach(all, "foretold", 2);
        addEach(all, "lacks", s.towns);
        addEach(all, "plan", s.crowds);
        addEach(all, "planned", 2);
        addHours(all, s);
        addWhatFollows(all, s);
        return all;
    }

    private static void addEach(List<Call> all, String name, int many) {
        for (int i = 0; i < many; i++) {
            all.add(new Call(name, i));
        }
    }

    private static void addPairs(List<Call> all, String name, int many, int others) {
        for (int i = 0; i < many; i++) {
            for (int j = 0; j < others; j++) {
                all.add(new Call(name, i, j));
            }
        }
    }

    private static void addHours(List<Call> all, Scene s) {
        for (int r = 0; r < s.roads; r++) {
            for (int h : new int[] {0, 4, 5, 6, 198, 199}) {
                if (h < s.now) {
                    all.add(new Call("out", r, h));
                }
            }
            if (s.now > 0) {
                all.add(new Call("came", r, 0, s.now - 1, 0));
                all.add(new Call("came", r, 0, s.now - 1, 1));
                all.add(new Call("came", r, s.now - 1, s.now - 1, 1));
            }
        }
    }

    /** W, CLOUDS, what is SHUT, and counters of hours to come are seen by what comes of them only. */
    private static void addWhatFollows(List<Call> all, Scene s) {
        all.add(new Call("dawn", 20));
        for (int c = 0; c < s.crowds; c++) {
            all.add(new Call("told", c, 0));
        }
        all.add(new Call("go", 5));
        int over = Math.min(200, s.now + 5) - 1;
        for (int r = 0; r < s.roads; r++) {
            all.add(new Call("came", r, 0, over, 0));
            all.add(new Call("came", r, 0, over, 1));
        }
        addEach(all, "queue", s.roads);
        addEach(all, "count", 7);
        all.add(new Call("town", 5, 5));
        all.add(new Call("road", 0, s.towns - 1, 1, 1));
        all.add(new Call("crowd", 0, 1, s.towns - 1));
    }

    private static int[] answers(Run r, List<Call> tells) {
        int[] got = new int[tells.size()];
        for (int i = 0; i < got.length; i++) {
            got[i] = tells.get(i).on(r);
        }
        return got;
    }

    // ---- each call, with values at the ends and beyond them

    private static final class Watch {
        final Scene scene;
        final List<Call> tells;
        final int[] before;
        int refused;

        Watch(Scene scene) {
            this.scene = scene;
            tells = tells(scene);
            before = answers(scene.make(), tells);
        }

        int[] numbers(int many) {
            return many < 2 ? new int[] {LOW, -1, 0, many, HIGH} : new int[] {LOW, -1, 0, 1, many - 1, many, HIGH};
        }

        int[] hours() {
            int now = scene.now;
            return new int[] {LOW, -1, 0, now - 1, now, now + 1, 199, 200, HIGH};
        }

        void sameBehind(Call call, int want) {
            Run r = scene.make();
            int got = call.on(r);
            if (got != want) {
                Run.fault(scene.name + ": " + call + " answered " + got + ", due is " + want);
            }
            sameAsBefore(call, r);
        }

        void sameAsBefore(Call call, Run r) {
            refused++;
            int[] behind = answers(r, tells);
            for (int i = 0; i < behind.length; i++) {
                if (behind[i] != before[i]) {
                    Run.fault(scene.name + ": behind " + call + " the call " + tells.get(i) + " answers " + behind[i]
                        + ", before it " + before[i]);
                    return;
                }
            }
        }

        /** Refused where the document says so: then nothing changes; else the answer is what is due. */
        void tell(Call call, boolean isRefused, int refusal, int want) {
            if (isRefused) {
                sameBehind(call, refusal);
                return;
            }
            int got = call.on(scene.make());
            if (got != want) {
                Run.fault(scene.name + ": " + call + " answered " + got + ", due is " + want);
            }
        }

        /** A call that only asks changes nothing, whatever it answers; NONE is due where it is refused. */
        void ask(Call call, boolean isRefused) {
            if (isRefused) {
                sameBehind(call, NONE);
            } else {
                Run r = scene.make();
                call.on(r);
                sameAsBefore(call, r);
            }
        }

        void askEach(String name, int[] values, Predicate<Integer> can) {
            for (int v : values) {
                ask(new Call(name, v), !can.test(v));
            }
        }
    }

    private static void lookAtTowns(Watch w) {
        Scene s = w.scene;
        for (int far : new int[] {LOW, -1, 0, 99, 100, HIGH}) {
            for (int water : new int[] {LOW, -1, 0, 1000000, 1000001, HIGH}) {
                boolean can = in(far, 0, 99) && in(water, 0, 1000000) && s.towns < 10;
                w.tell(new Call("town", far, water), !can, NONE, s.towns);
            }
        }
        for (int half : new int[] {LOW, -1, 0, 1, 100, 101, HIGH}) {
            w.tell(new Call("path", half), !in(half, 1, 100), NO, YES);
        }
        for (int town : w.numbers(s.towns)) {
            for (int parts : new int[] {LOW, -1, 0, 100, 101, HIGH}) {
                w.tell(new Call("clouds", town, parts), !s.isTown(town) || !in(parts, 0, 100), NO, YES);
            }
        }
    }

    private static void lookAtRoads(Watch w) {
        Scene s = w.scene;
        for (int from : w.numbers(s.towns)) {
            for (int to : w.numbers(s.towns)) {
                boolean two = s.isTown(from) && s.isTown(to) && from != to;
                for (int cars : new int[] {LOW, -1, 0, 1, 5000, 5001, HIGH}) {
                    for (int hours : new int[] {LOW, -1, 0, 1, 9, 10, HIGH}) {
                        boolean can = two && in(cars, 1, 5000) && in(hours, 1, 9) && s.roads < 16 && s.now == 0;
                        w.tell(new Call("road", from, to, cars, hours), !can, NONE, s.roads);
                    }
                }
            }
        }
    }

    private static void lookAtCrowds(Watch w) {
        Scene s = w.scene;
        for (int town : w.numbers(s.towns)) {
            for (int home : w.numbers(s.towns)) {
                boolean ways = s.isTown(town) && s.isTown(home) && town != home && s.reach[town][home];
                for (int cars : new int[] {LOW, -1, 0, 1, 20000, 20001, HIGH}) {
                    boolean can = ways && in(cars, 1, 20000) && s.crowds < 8 && s.now == 0;
                    w.tell(new Call("crowd", town, cars, home), !can, NONE, s.crowds);
                }
            }
        }
        for (int hours : new int[] {LOW, -1, 21, HIGH}) {
            w.sameBehind(new Call("dawn", hours), NONE);
        }
        if (s.now != 0) {
            w.sameBehind(new Call("dawn", 0), NONE);
            w.sameBehind(new Call("dawn", 20), NONE);
        }
    }

    private static void lookAtHours(Watch w) {
        Scene s = w.scene;
        for (int crowd : w.numbers(s.crowds)) {
            for (int hour : w.hours()) {
                boolean can = s.isCrowd(crowd) && s.hour[crowd] >= s.now && in(hour, s.now, 199);
                w.tell(new Call("hold", crowd, hour), !can, NO, YES);
            }
        }
        for (int road : w.numbers(s.roads)) {
            for (int from : w.hours()) {
                for (int to : w.hours()) {
                    boolean can = s.isRoad(road) && from >= s.now && to > from;
                    w.tell(new Call("shut", road, from, to), !can, NO, YES);
                }
            }
        }
        for (int n : new int[] {LOW, -1, 0, 1, 50, 51, HIGH}) {
            w.tell(new Call("go", n), !in(n, 0, 50), NONE, Math.min(200, s.now + n));
        }
        w.sameBehind(new Call("go", 0), s.now);
    }

    private static void lookAtCounters(Watch w) {
        Scene s = w.scene;
        for (int road : w.numbers(s.roads)) {
            for (int hour : w.hours()) {
                for (int cars : new int[] {LOW, -2, -1, 0, 5000, 5001, HIGH}) {
                    boolean can = s.isRoad(road) && s.isOver(hour) && in(cars, -1, 5000);
                    w.tell(new Call("counted", road, hour, cars), !can, NO, YES);
                }
                w.ask(new Call("out", road, hour), !s.isRoad(road) || !s.isOver(hour));
                for (int to : w.hours()) {
                    boolean span = s.isRoad(road) && s.isOver(hour) && s.isOver(to) && hour <= to;
                    for (int what : new int[] {LOW, -1, 0, 1, 2, HIGH}) {
                        w.ask(new Call("came", road, hour, to, what), !span || !in(what, 0, 1));
                    }
                }
            }
        }
    }

    private static void lookAtQuestions(Watch w) {
        Scene s = w.scene;
        w.askEach("seconds", w.numbers(s.towns), s::isTown);
        w.askEach("lacks", w.numbers(s.towns), s::isTown);
        w.askEach("queue", w.numbers(s.roads), s::isRoad);
        w.askEach("on", w.numbers(s.roads), s::isRoad);
        w.askEach("plan", w.numbers(s.crowds), s::isCrowd);
        w.askEach("foretold", new int[] {LOW, -1, 0, 1, 2, HIGH}, v -> in(v, 0, 1));
        w.askEach("planned", new int[] {LOW, -1, 0, 1, 2, HIGH}, v -> in(v, 0, 1));
        w.askEach("count", new int[] {LOW, -1, 0, 6, 7, HIGH}, v -> in(v, 0, 6));
        for (int from : w.numbers(s.towns)) {
            for (int to : w.numbers(s.towns)) {
                w.ask(new Call("least", from, to), !s.isTown(from) || !s.isTown(to) || !s.reach[from][to]);
            }
            for (int what : new int[] {LOW, -1, 0, 2, 3, HIGH}) {
                w.ask(new Call("at", from, what), !s.isTown(from) || !in(what, 0, 2));
            }
        }
        for (int crowd : w.numbers(s.crowds)) {
            for (int what : new int[] {LOW, -1, 0, 5, 6, HIGH}) {
                w.ask(new Call("told", crowd, what), !s.isCrowd(crowd) || !in(what, 0, 5));
            }
        }
    }

    public static void main(String[] args) {
        Run.about("what is refused changes nothing");
        int refused = 0;
        Scene[] scenes = {nothing(), oneTown(), start(), hourOne(), middle(), last(), over(), fullAtFirst(), fullLater()};
        for (Scene s : scenes) {
            Watch w = new Watch(s);
            lookAtTowns(w);
            lookAtRoads(w);
            lookAtCrowds(w);
            lookAtHours(w);
            lookAtCounters(w);
            lookAtQuestions(w);
            refused += w.refused;
        }
        if (refused < 10000) {
            Run.fault("only " + refused + " calls were looked at");
        }
        Run.end("behind " + refused + " calls all is as before");
    }
}
