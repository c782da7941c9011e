/** For each promise of the document: ordinary inputs, the edges that it names, and wrong inputs. */
public final class PromisesTest {
    private static final int NONE = ShadowRoads.NONE;
    private static final int LOW = Integer.MIN_VALUE;
    private static final int HIGH = Integer.MAX_VALUE;
    private static int wrong = 0;
    private static String part = "";

    private static void due(String call, int got, int want) {
        if (got != want) {
            wrong++;
            System.out.println(part + ": " + call + " answered " + got + ", due is " + want);
        }
    }

    private static void due(String call, boolean got, boolean want) {
        due(call, got ? 1 : 0, want ? 1 : 0);
    }

    /** Two towns, and one road from the first to the second. */
    private static ShadowRoads oneRoad(int cars, int hours) {
        ShadowRoads x = new ShadowRoads();
        x.town(0, 1000000);
        x.town(0, 1000000);
        x.road(0, 1, cars, hours);
        return x;
    }

    private static void goTo(ShadowRoads x, int hour) {
        for (int i = 0; i < 200 && x.count(0) < hour; i++) {
            x.go(Math.min(50, hour - x.count(0)));
        }
    }

    private static void newObject() {
        part = "promise 1";
        ShadowRoads x = new ShadowRoads();
        for (int what = 0; what <= 6; what++) {
            due("count(" + what + ")", x.count(what), 0);
        }
        due("NONE", NONE, -1);
    }

    private static void town() {
        part = "promise 2";
        ShadowRoads x = new ShadowRoads();
        int[][] bad = {{-1, 0}, {100, 0}, {0, -1}, {0, 1000001}, {LOW, 5}, {HIGH, 5}, {5, LOW}, {5, HIGH}};
        for (int[] b : bad) {
            due("town(" + b[0] + ", " + b[1] + ")", x.town(b[0], b[1]), NONE);
        }
        due("count(1)", x.count(1), 0);
        due("town(99, 1000000)", x.town(99, 1000000), 0);
        due("at(0, 0)", x.at(0, 0), 1000000);
        x.go(1);
        for (int t = 1; t < 10; t++) {
            due("a town behind hour 0", x.town(0, t), t);
        }
        due("an eleventh town", x.town(0, 0), NONE);
        due("count(1)", x.count(1), 10);
        due("at(9, 0)", x.at(9, 0), 9);
    }

    private static void pathAndSeconds() {
        part = "promises 3, 4";
        ShadowRoads x = new ShadowRoads();
        x.town(49, 0);
        x.town(50, 0);
        x.town(99, 0);
        x.town(1, 0);
        due("seconds(0)", x.seconds(0), 27);
        due("seconds(1)", x.seconds(1), 0);
        due("seconds(3)", x.seconds(3), 147);
        due("path(100)", x.path(100), true);
        due("seconds(2)", x.seconds(2), 42);
        due("path(0)", x.path(0), false);
        due("path(101)", x.path(101), false);
        due("path(LOW)", x.path(LOW), false);
        due("path(HIGH)", x.path(HIGH), false);
        due("seconds(2) as before", x.seconds(2), 42);
        due("path(1)", x.path(1), true);
        due("seconds(3)", x.seconds(3), 0);
        x.town(0, 0);
        due("seconds(4)", x.seconds(4), 3);
        due("seconds(5)", x.seconds(5), NONE);
        due("seconds(-1)", x.seconds(-1), NONE);
        due("seconds(HIGH)", x.seconds(HIGH), NONE);
        x.go(3);
        due("path(99) later", x.path(99), true);
        due("seconds(4) later", x.seconds(4), 297);
    }

    private static void clouds() {
        part = "promise 5";
        ShadowRoads x = oneRoad(5, 1);
        x.town(0, 0);
        x.road(0, 2, 5, 1);
        x.road(2, 1, 5, 1);
        x.crowd(0, 3, 1);
        due("clouds(0, 101)", x.clouds(0, 101), false);
        due("clouds(0, -1)", x.clouds(0, -1), false);
        due("clouds(3, 5)", x.clouds(3, 5), false);
        due("clouds(-1, 5)", x.clouds(-1, 5), false);
        due("dawn(1)", x.dawn(1), 0);
        due("clouds(0, 100)", x.clouds(0, 100), true);
        due("clouds(2, 99)", x.clouds(2, 99), true);
        due("dawn(1)", x.dawn(1), 1);
        due("clouds(0, 0)", x.clouds(0, 0), true);
        x.go(1);
        due("clouds later", x.clouds(0, 100), true);
    }

    private static void road() {
        part = "promise 6";
        ShadowRoads x = new ShadowRoads();
        x.town(0, 0);
        x.town(0, 0);
        int[][] bad = {{0, 0, 1, 1}, {0, 2, 1, 1}, {2, 0, 1, 1}, {-1, 0, 1, 1}, {0, -1, 1, 1}, {0, 1, 0, 1},
            {0, 1, 5001, 1}, {0, 1, 1, 0}, {0, 1, 1, 10}, {LOW, HIGH, 1, 1}, {0, 1, LOW, 1}, {0, 1, 1, HIGH}};
        for (int[] b : bad) {
            due("a bad road", x.road(b[0], b[1], b[2], b[3]), NONE);
        }
        due("count(2)", x.count(2), 0);
        due("least(0, 1)", x.least(0, 1), NONE);
        for (int r = 0; r < 16; r++) {
            due("road " + r, x.road(r % 2, 1 - r % 2, r % 2 == 0 ? 1 : 5000, r % 2 == 0 ? 9 : 1), r);
        }
        due("road 16", x.road(0, 1, 1, 1), NONE);
        due("count(2)", x.count(2), 16);
        ShadowRoads y = oneRoad(1, 1);
        y.go(0);
        due("road behind go(0)", y.road(1, 0, 1, 1), 1);
        y.go(1);
        due("road behind go(1)", y.road(1, 0, 1, 1), NONE);
    }

    private static void least() {
        part = "promise 7";
        ShadowRoads x = new ShadowRoads();
        for (int t = 0; t < 4; t++) {
            x.town(0, 0);
        }
        x.road(0, 1, 1, 9);
        x.road(1, 2, 1, 9);
        due("least(0, 2)", x.least(0, 2), 18);
        due("least(2, 0)", x.least(2, 0), NONE);
        due("least(3, 3)", x.least(3, 3), 0);
        due("least(4, 4)", x.least(4, 4), NONE);
        due("least(-1, 0)", x.least(-1, 0), NONE);
        due("least(0, HIGH)", x.least(0, HIGH), NONE);
        x.road(0, 3, 1, 2);
        x.road(3, 1, 1, 3);
        due("least(0, 2)", x.least(0, 2), 14);
        x.road(0, 2, 1, 9);
        x.road(3, 2, 1, 9);
        due("least(0, 2)", x.least(0, 2), 9);
        due("least(3, 2)", x.least(3, 2), 9);
        x.road(0, 1, 1, 7);
        due("least(0, 1) by a longer road", x.least(0, 1), 5);
        x.road(0, 3, 1, 9);
        due("least(0, 1) by a longer road", x.least(0, 1), 5);
        x.road(2, 0, 1, 1);
        due("least(3, 0)", x.least(3, 0), 10);
        due("least(0, 0)", x.least(0, 0), 0);
    }

    private static void wayTakesTheLeastNumber() {
        part = "terms: the WAY";
        ShadowRoads x = new ShadowRoads();
        for (int t = 0; t < 4; t++) {
            x.town(0, 0);
        }
        x.road(1, 3, 50, 1);
        x.road(0, 3, 50, 3);
        x.road(0, 1, 50, 2);
        x.road(0, 2, 50, 1);
        x.road(0, 3, 50, 3);
        x.crowd(0, 5, 3);
        x.go(1);
        due("on(1)", x.on(1), 5);
        ShadowRoads y = new ShadowRoads();
        for (int t = 0; t < 4; t++) {
            y.town(0, 0);
        }
        y.road(0, 1, 50, 1);
        y.road(0, 2, 50, 2);
        y.road(1, 3, 50, 4);
        y.crowd(0, 5, 3);
        y.road(2, 3, 50, 1);
        y.go(1);
        due("on(0)", y.on(0), 0);
        due("on(1) by a road that came behind the crowd", y.on(1), 5);
    }

    private static void crowd() {
        part = "promise 8";
        ShadowRoads x = oneRoad(10, 1);
        x.town(0, 0);
        int[][] bad = {{0, 1, 0}, {1, 1, 0}, {0, 1, 2}, {0, 0, 1}, {0, 20001, 1}, {3, 1, 1}, {0, 1, 3},
            {-1, 1, 1}, {0, 1, -1}, {0, LOW, 1}, {HIGH, 1, LOW}};
        for (int[] b : bad) {
            due("a bad crowd", x.crowd(b[0], b[1], b[2]), NONE);
        }
        due("count(3)", x.count(3), 0);
        due("at(0, 1)", x.at(0, 1), 0);
        for (int c = 0; c < 8; c++) {
            due("crowd " + c, x.crowd(0, c == 0 ? 20000 : c, 1), c);
        }
        due("crowd 8", x.crowd(0, 1, 1), NONE);
        due("count(3)", x.count(3), 8);
        due("at(0, 1)", x.at(0, 1), 20028);
        ShadowRoads y = oneRoad(10, 1);
        y.go(1);
        due("a crowd behind hour 0", y.crowd(0, 1, 1), NONE);
    }

    private static void dawn() {
        part = "promise 9";
        ShadowRoads x = new ShadowRoads();
        int[] far = {40, 0, 30, 30, 0, 0};
        for (int f : far) {
            x.town(f, 0);
        }
        x.road(0, 1, 9, 1);
        x.road(0, 2, 9, 3);
        x.road(0, 3, 9, 3);
        x.road(2, 1, 9, 1);
        x.road(3, 1, 9, 1);
        x.road(0, 4, 9, 1);
        x.crowd(0, 7, 1);
        due("dawn(-1)", x.dawn(-1), NONE);
        due("dawn(21)", x.dawn(21), NONE);
        due("dawn(2): the home and a dead end are no goal", x.dawn(2), 0);
        due("told(0, 0)", x.told(0, 0), 0);
        x.hold(0, 4);
        due("dawn(3)", x.dawn(3), 1);
        due("told(0, 0): by numbers", x.told(0, 0), 2);
        due("told(0, 3)", x.told(0, 3), 4);
        due("at(0, 1)", x.at(0, 1), 0);
        due("at(2, 1)", x.at(2, 1), 7);
        due("dawn(20)", x.dawn(20), 0);
        x.go(1);
        due("dawn(0) behind hour 0", x.dawn(0), NONE);
    }

    private static void dawnByLeastFirst() {
        part = "promise 9, by LEAST";
        ShadowRoads x = new ShadowRoads();
        int[] far = {40, 30, 30, 99};
        for (int f : far) {
            x.town(f, 0);
        }
        x.road(0, 1, 9, 4);
        x.road(0, 2, 9, 2);
        x.road(1, 3, 9, 1);
        x.road(2, 3, 9, 1);
        x.crowd(0, 1, 3);
        x.crowd(0, 1, 3);
        due("dawn(20)", x.dawn(20), 2);
        due("told(0, 0)", x.told(0, 0), 2);
        due("told(1, 0)", x.told(1, 0), 2);
        ShadowRoads y = new ShadowRoads();
        y.town(30, 0);
        y.town(30, 0);
        y.town(99, 0);
        y.road(0, 2, 9, 1);
        y.road(1, 0, 9, 1);
        y.crowd(1, 1, 2);
        due("dawn(20) to no better one", y.dawn(20), 0);
    }

    private static void hold() {
        part = "promise 10";
        ShadowRoads x = oneRoad(10, 1);
        x.crowd(0, 10, 1);
        x.crowd(0, 10, 1);
        due("hold(2, 5)", x.hold(2, 5), false);
        due("hold(-1, 5)", x.hold(-1, 5), false);
        due("hold(0, -1)", x.hold(0, -1), false);
        due("hold(0, 200)", x.hold(0, 200), false);
        due("hold(0, HIGH)", x.hold(0, HIGH), false);
        due("told(0, 3)", x.told(0, 3), 0);
        due("hold(0, 199)", x.hold(0, 199), true);
        due("told(0, 3)", x.told(0, 3), 199);
        due("hold(0, 3)", x.hold(0, 3), true);
        x.go(3);
        due("hold(1, 9), let go in 0", x.hold(1, 9), false);
        due("hold(0, 2)", x.hold(0, 2), false);
        due("hold(0, 3) in hour 3", x.hold(0, 3), true);
        due("on(0)", x.on(0), 0);
        x.go(1);
        due("on(0)", x.on(0), 10);
        due("hold(0, 9), let go in 3", x.hold(0, 9), false);
        due("told(0, 3)", x.told(0, 3), 3);
    }

    private static void shut() {
        part = "promise 11";
        ShadowRoads x = oneRoad(10, 1);
        x.crowd(0, 100, 1);
        due("shut(1, 0, 1)", x.shut(1, 0, 1), false);
        due("shut(-1, 0, 1)", x.shut(-1, 0, 1), false);
        due("shut(0, -1, 1)", x.shut(0, -1, 1), false);
        due("shut(0, 1, 1)", x.shut(0, 1, 1), false);
        due("shut(0, 3, 2)", x.shut(0, 3, 2), false);
        due("shut(0, 1, 4)", x.shut(0, 1, 4), true);
        x.go(2);
        due("shut(0, 1, 9) in hour 2", x.shut(0, 1, 9), false);
        due("shut(0, 3, 5) in the place of the other", x.shut(0, 3, 5), true);
        x.go(4);
        int[] outs = {10, 0, 10, 0, 0, 10};
        for (int h = 0; h < outs.length; h++) {
            due("out(0, " + h + ")", x.out(0, h), outs[h]);
        }
        due("shut(0, 6, HIGH)", x.shut(0, 6, HIGH), true);
        goTo(x, 200);
        due("count(4)", x.count(4), 30);
        due("came(0, 0, 199, 1)", x.came(0, 0, 199, 1), 30);
    }

    private static void go() {
        part = "promise 12";
        ShadowRoads x = oneRoad(10, 9);
        x.crowd(0, 5, 1);
        due("go(-1)", x.go(-1), NONE);
        due("go(51)", x.go(51), NONE);
        due("go(LOW)", x.go(LOW), NONE);
        due("go(0)", x.go(0), 0);
        due("go(9)", x.go(9), 9);
        due("count(4)", x.count(4), 0);
        due("on(0)", x.on(0), 5);
        due("go(1)", x.go(1), 10);
        due("count(4)", x.count(4), 5);
        due("told(0, 5)", x.told(0, 5), 9);
        due("go(50)", x.go(50), 60);
        goTo(x, 199);
        due("go(2)", x.go(2), 200);
        due("go(50)", x.go(50), 200);
        due("go(0)", x.go(0), 200);
        due("go(51)", x.go(51), NONE);
    }

    /** Two crowds meet at a town; who came first sets out first, and roads go by numbers. */
    private static void queuesAreInOrder() {
        part = "terms: AN HOUR, promises 13, 14";
        ShadowRoads x = new ShadowRoads();
        for (int t = 0; t < 4; t++) {
            x.town(0, 0);
        }
        x.road(1, 2, 3, 1);
        x.road(0, 2, 3, 1);
        x.road(2, 3, 4, 2);
        x.crowd(0, 6, 3);
        x.crowd(1, 6, 3);
        x.crowd(2, 2, 3);
        x.hold(2, 1);
        due("queue(3)", x.queue(3), NONE);
        due("queue(-1)", x.queue(-1), NONE);
        due("on(3)", x.on(3), NONE);
        due("on(-1)", x.on(-1), NONE);
        x.go(1);
        due("queue(0)", x.queue(0), 3);
        due("queue(1)", x.queue(1), 3);
        due("on(0)", x.on(0), 3);
        x.go(1);
        due("queue(2)", x.queue(2), 4);
        due("on(2)", x.on(2), 4);
        due("count(5)", x.count(5), 4);
        due("at(2, 1)", x.at(2, 1), 4);
        x.go(2);
        int[] home = {1, 3, 0};
        for (int c = 0; c < 3; c++) {
            due("told(" + c + ", 4)", x.told(c, 4), home[c]);
        }
        x.go(1);
        int[] later = {3, 3, 2};
        for (int c = 0; c < 3; c++) {
            due("told(" + c + ", 4)", x.told(c, 4), later[c]);
        }
        due("told(2, 5)", x.told(2, 5), 4);
        due("told(1, 5)", x.told(1, 5), NONE);
    }

    private static void foretold() {
        part = "promise 15";
        ShadowRoads x = oneRoad(10, 2);
        due("foretold(0) of no cars", x.foretold(0), NONE);
        due("foretold(1) of no cars", x.foretold(1), 0);
        x.crowd(0, 25, 1);
        due("foretold(0)", x.foretold(0), 4);
        due("foretold(1)", x.foretold(1), 20);
        due("foretold(2)", x.foretold(2), NONE);
        due("foretold(-1)", x.foretold(-1), NONE);
        due("count(0)", x.count(0), 0);
        due("count(6)", x.count(6), 0);
        x.go(1);
        due("foretold(1) from now on", x.foretold(1), 5);
        x.shut(0, 1, 3);
        due("foretold(0) of a shut road", x.foretold(0), 6);
        due("foretold(1) of a shut road", x.foretold(1), 35);
        x.go(20);
        due("foretold(0) when all are home", x.foretold(0), 6);
        due("foretold(1) when all are home", x.foretold(1), 0);
        ShadowRoads y = oneRoad(10, 1);
        y.crowd(0, 20, 1);
        y.hold(0, 197);
        due("foretold(0) in the last hour", y.foretold(0), 199);
        y.hold(0, 198);
        due("foretold(0) behind the last hour", y.foretold(0), NONE);
        due("foretold(1)", y.foretold(1), 10);
    }

    private static void lacks() {
        part = "promise 16";
        ShadowRoads x = new ShadowRoads();
        x.town(0, 25);
        x.town(0, 10);
        x.town(0, 0);
        x.road(0, 1, 5, 2);
        x.crowd(0, 10, 1);
        due("lacks(0)", x.lacks(0), NONE);
        due("lacks(1)", x.lacks(1), 3);
        due("lacks(2) of a town without cars", x.lacks(2), NONE);
        due("lacks(3)", x.lacks(3), NONE);
        due("lacks(-1)", x.lacks(-1), NONE);
        x.hold(0, 3);
        due("lacks(0), ten in each hour", x.lacks(0), 2);
        x.go(3);
        due("at(0, 2)", x.at(0, 2), 5);
        due("at(0, 0)", x.at(0, 0), 0);
        due("lacks(0) from now on", x.lacks(0), 3);
        x.go(1);
        due("lacks(0), all gone in hour 4", x.lacks(0), NONE);
        goTo(x, 199);
        due("lacks(1) from now on", x.lacks(1), 199);
        x.go(1);
        due("lacks(1) behind the last hour", x.lacks(1), NONE);
    }

    private static void plan() {
        part = "promises 17, 18";
        ShadowRoads x = oneRoad(10, 1);
        due("plan(0) of none", x.plan(0), NONE);
        due("planned(0) of none", x.planned(0), NONE);
        for (int c = 0; c < 4; c++) {
            x.crowd(0, 10, 1);
        }
        for (int c = 0; c < 4; c++) {
            due("plan(" + c + ")", x.plan(c), c);
        }
        due("plan(4)", x.plan(4), NONE);
        due("plan(-1)", x.plan(-1), NONE);
        due("planned(0)", x.planned(0), 4);
        due("planned(1)", x.planned(1), 0);
        due("planned(2)", x.planned(2), NONE);
        due("planned(-1)", x.planned(-1), NONE);
        due("told(3, 3): a plan holds none", x.told(3, 3), 0);
        x.crowd(0, 10, 1);
        due("plan(0) of five", x.plan(0), NONE);
        due("planned(0) of five", x.planned(0), NONE);
        x.hold(1, 20);
        x.go(1);
        due("plan(0), let go", x.plan(0), NONE);
        due("plan(1) behind the others", x.plan(1), 4);
        due("planned(0)", x.planned(0), 5);
        due("planned(1) from now on", x.planned(1), 20 + 10);
        x.go(20);
        due("plan(1), all let go", x.plan(1), NONE);
        due("planned(1), all let go", x.planned(1), NONE);
    }

    private static void planAtTheEnd() {
        part = "promises 17, 18 at the end";
        ShadowRoads x = oneRoad(10, 1);
        x.crowd(0, 20, 1);
        x.hold(0, 199);
        goTo(x, 197);
        due("plan(0) in hour 197", x.plan(0), 197);
        due("planned(0)", x.planned(0), 199);
        due("planned(1)", x.planned(1), 10);
        x.go(1);
        due("plan(0) in hour 198", x.plan(0), 198);
        due("planned(0)", x.planned(0), 200);
        due("planned(1)", x.planned(1), 10);
        x.go(2);
        due("plan(0) in hour 200", x.plan(0), NONE);
        ShadowRoads y = oneRoad(10, 1);
        y.crowd(0, 45, 1);
        y.hold(0, 199);
        goTo(y, 198);
        due("plan(0): in hour 199 the fewest wait", y.plan(0), 199);
        due("planned(0)", y.planned(0), 200);
        due("planned(1)", y.planned(1), 35);
    }

    /** What was foretold or planned once is not answered again when things have changed. */
    private static void forecastsAreNew() {
        part = "promises 15 to 18, things as they are now";
        ShadowRoads x = new ShadowRoads();
        x.town(40, 0);
        x.town(0, 0);
        x.town(99, 0);
        x.road(0, 1, 10, 2);
        x.road(1, 2, 10, 2);
        x.crowd(0, 10, 2);
        due("foretold(0)", x.foretold(0), 4);
        due("planned(0)", x.planned(0), 4);
        x.road(0, 2, 10, 3);
        due("foretold(0) with a new road", x.foretold(0), 3);
        due("planned(0) with a new road", x.planned(0), 3);
        due("lacks(1)", x.lacks(1), NONE);
        due("dawn(2)", x.dawn(2), 1);
        due("foretold(0) behind dawn", x.foretold(0), 2);
        due("planned(0) behind dawn", x.planned(0), 2);
        x.hold(0, 2);
        due("foretold(0) of a held crowd", x.foretold(0), 4);
        due("lacks(1) of a held crowd", x.lacks(1), 0);
        x.shut(1, 0, 4);
        due("foretold(0) of a shut road", x.foretold(0), 6);
        due("planned(0) of a shut road", x.planned(0), 6);
        x.crowd(1, 10, 2);
        due("foretold(0) of one crowd more", x.foretold(0), 7);
        due("planned(0) of one crowd more", x.planned(0), 7);
        x.go(1);
        due("planned(1) behind an hour", x.planned(1), 10 * 3 + 10);
        due("foretold(1) behind an hour", x.foretold(1), 10 * 5 + 10);
    }

    /** Cars of one crowd that come to a queue in turn by two hours stand there together. */
    private static void oneCrowdQueuesInTurn() {
        part = "terms: AN HOUR, one crowd";
        ShadowRoads x = new ShadowRoads();
        for (int t = 0; t < 3; t++) {
            x.town(0, 0);
        }
        x.road(0, 1, 10, 1);
        x.road(1, 2, 4, 1);
        x.crowd(0, 25, 2);
        x.go(3);
        due("queue(1)", x.queue(1), 12);
        due("on(1)", x.on(1), 4);
        x.go(20);
        due("count(4)", x.count(4), 25);
        due("told(0, 5)", x.told(0, 5), 8);
    }

    private static void counters() {
        part = "promises 19, 20";
        ShadowRoads x = oneRoad(10, 1);
        x.shut(0, 2, 4);
        x.go(6);
        due("counted(1, 0, 5)", x.counted(1, 0, 5), false);
        due("counted(-1, 0, 5)", x.counted(-1, 0, 5), false);
        due("counted(0, 6, 5)", x.counted(0, 6, 5), false);
        due("counted(0, -1, 5)", x.counted(0, -1, 5), false);
        due("counted(0, LOW, 5)", x.counted(0, LOW, 5), false);
        due("counted(0, 0, 5001)", x.counted(0, 0, 5001), false);
        due("counted(0, 0, -2)", x.counted(0, 0, -2), false);
        due("came(0, 0, 5, 0)", x.came(0, 0, 5, 0), 0);
        due("came(0, 0, 5, 1)", x.came(0, 0, 5, 1), 40);
        due("counted(0, 5, 5000)", x.counted(0, 5, 5000), true);
        due("counted(0, 2, 3)", x.counted(0, 2, 3), true);
        due("counted(0, 0, 0)", x.counted(0, 0, 0), true);
        due("came(0, 0, 5, 0)", x.came(0, 0, 5, 0), 5003);
        due("came(0, 0, 5, 1)", x.came(0, 0, 5, 1), 5023);
        due("came(0, 5, 5, 1)", x.came(0, 5, 5, 1), 5000);
        due("came(0, 0, 3, 0)", x.came(0, 0, 3, 0), 3);
        due("came(0, 3, 4, 0)", x.came(0, 3, 4, 0), 0);
        due("came(0, 3, 3, 1)", x.came(0, 3, 3, 1), 0);
        due("counted(0, 5, NONE)", x.counted(0, 5, NONE), true);
        due("came(0, 0, 5, 1)", x.came(0, 0, 5, 1), 33);
        due("came(0, 2, 1, 0)", x.came(0, 2, 1, 0), NONE);
        due("came(0, 0, 6, 0)", x.came(0, 0, 6, 0), NONE);
        due("came(0, -1, 5, 0)", x.came(0, -1, 5, 0), NONE);
        due("came(1, 0, 5, 0)", x.came(1, 0, 5, 0), NONE);
        due("came(-1, 0, 5, 0)", x.came(-1, 0, 5, 0), NONE);
        due("came(0, 0, 5, 2)", x.came(0, 0, 5, 2), NONE);
        due("came(0, 0, 5, -1)", x.came(0, 0, 5, -1), NONE);
        due("came(0, LOW, HIGH, 0)", x.came(0, LOW, HIGH, 0), NONE);
        goTo(x, 200);
        due("counted(0, 199, 7)", x.counted(0, 199, 7), true);
        due("counted(0, 200, 7)", x.counted(0, 200, 7), false);
        due("came(0, 199, 199, 0)", x.came(0, 199, 199, 0), 7);
        due("came(0, 199, 200, 0)", x.came(0, 199, 200, 0), NONE);
    }

    private static void out() {
        part = "promise 21";
        ShadowRoads x = oneRoad(10, 3);
        x.crowd(0, 14, 1);
        due("out(0, 0) before it is over", x.out(0, 0), NONE);
        x.go(3);
        due("out(0, 0)", x.out(0, 0), 10);
        due("out(0, 1)", x.out(0, 1), 4);
        due("out(0, 2)", x.out(0, 2), 0);
        due("out(0, 3)", x.out(0, 3), NONE);
        due("out(0, -1)", x.out(0, -1), NONE);
        due("out(1, 0)", x.out(1, 0), NONE);
        due("out(-1, 0)", x.out(-1, 0), NONE);
        x.foretold(0);
        x.counted(0, 1, 9);
        due("out(0, 1) in truth", x.out(0, 1), 4);
        goTo(x, 200);
        due("out(0, 199)", x.out(0, 199), 0);
        due("out(0, 200)", x.out(0, 200), NONE);
    }

    private static void told() {
        part = "promise 22";
        ShadowRoads x = oneRoad(10, 1);
        x.crowd(0, 15, 1);
        x.hold(0, 2);
        int[] first = {0, 15, 1, 2, 0, NONE, NONE};
        for (int what = 0; what < first.length; what++) {
            due("told(0, " + what + ")", x.told(0, what), first[what]);
        }
        due("told(0, -1)", x.told(0, -1), NONE);
        due("told(1, 0)", x.told(1, 0), NONE);
        due("told(-1, 0)", x.told(-1, 0), NONE);
        x.go(4);
        due("told(0, 4)", x.told(0, 4), 10);
        due("told(0, 5)", x.told(0, 5), NONE);
        x.go(1);
        int[] then = {0, 15, 1, 2, 15, 4};
        for (int what = 0; what < then.length; what++) {
            due("told(0, " + what + ")", x.told(0, what), then[what]);
        }
    }

    private static void at() {
        part = "promise 23";
        ShadowRoads x = new ShadowRoads();
        x.town(0, 30);
        x.town(0, 7);
        x.road(0, 1, 10, 1);
        x.crowd(0, 20, 1);
        x.crowd(0, 5, 1);
        x.hold(1, 1);
        due("at(0, 1)", x.at(0, 1), 25);
        x.go(1);
        due("at(0, 0)", x.at(0, 0), 15);
        due("at(0, 1): queued and not let go", x.at(0, 1), 15);
        due("at(1, 1): none on the road", x.at(1, 1), 0);
        x.go(1);
        due("at(0, 0)", x.at(0, 0), 10);
        due("at(1, 1): home", x.at(1, 1), 10);
        due("at(1, 0)", x.at(1, 0), 0);
        due("at(1, 2)", x.at(1, 2), 3);
        x.go(1);
        due("at(1, 2)", x.at(1, 2), 23);
        due("at(1, 3)", x.at(1, 3), NONE);
        due("at(1, -1)", x.at(1, -1), NONE);
        due("at(2, 0)", x.at(2, 0), NONE);
        due("at(-1, 0)", x.at(-1, 0), NONE);
    }

    private static void count() {
        part = "promise 24";
        ShadowRoads x = oneRoad(10, 1);
        x.crowd(0, 25, 1);
        x.go(2);
        int[] counts = {2, 2, 1, 1, 10, 5, 20};
        for (int what = 0; what < counts.length; what++) {
            due("count(" + what + ")", x.count(what), counts[what]);
        }
        due("count(7)", x.count(7), NONE);
        due("count(-1)", x.count(-1), NONE);
    }

    /** Many crowds mixed car by car: more parts in a queue than the lines have room for at first. */
    private static void longMixedQueue() {
        part = "a long mixed queue";
        ShadowRoads x = new ShadowRoads();
        for (int t = 0; t < 10; t++) {
            x.town(0, 0);
        }
        x.road(8, 9, 5000, 1);
        for (int t = 0; t < 8; t++) {
            x.road(t, 8, 1, 1);
            x.crowd(t, 200, 9);
        }
        x.shut(0, 0, 198);
        due("foretold(0)", x.foretold(0), NONE);
        goTo(x, 198);
        due("queue(0)", x.queue(0), 8 * 197);
        goTo(x, 200);
        due("count(4)", x.count(4), 8 * 198);
        for (int c = 0; c < 8; c++) {
            due("told(" + c + ", 4)", x.told(c, 4), 198);
        }
    }

    public static void main(String[] args) {
        newObject();
        town();
        pathAndSeconds();
        clouds();
        road();
        least();
        wayTakesTheLeastNumber();
        crowd();
        dawn();
        dawnByLeastFirst();
        hold();
        shut();
        go();
        queuesAreInOrder();
        foretold();
        lacks();
        plan();
        planAtTheEnd();
        forecastsAreNew();
        oneCrowdQueuesInTurn();
        counters();
        out();
        told();
        at();
        count();
        longMixedQueue();
        System.out.println(wrong == 0 ? "all promises hold" : wrong + " answers are not as due");
        if (wrong != 0) {
            System.exit(1);
        }
    }
}
