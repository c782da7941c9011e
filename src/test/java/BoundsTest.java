/**
 * Each sentence of the document that names a bound: a value at each end of what can be and one beyond it; none,
 * one, and the most of what can come, and one more; the hours 0, 199 and 200.
 */
public final class BoundsTest {
    private static final int NONE = Run.NONE;
    private static final int YES = Run.YES;
    private static final int NO = Run.NO;
    private static final int LOW = Run.LOW;
    private static final int HIGH = Run.HIGH;

    private static Run towns(int many) {
        Run r = new Run();
        for (int t = 0; t < many; t++) {
            r.due(t, "town", 0, 1000000);
        }
        return r;
    }

    /** Two towns, and the road 0 from the first to the second. */
    private static Run oneRoad(int cars, int hours) {
        return towns(2).due(0, "road", 0, 1, cars, hours);
    }

    private static Run oneCrowd(int roadCars, int hours, int cars) {
        return oneRoad(roadCars, hours).due(0, "crowd", 0, cars, 1);
    }

    /** The call answers 'refused' for each of these values in one of its places, all others being right. */
    private static void refuses(Run r, int refused, String name, int place, int[] right, int... values) {
        for (int value : values) {
            int[] a = right.clone();
            a[place] = value;
            r.due(refused, name, a);
        }
    }

    private static int[] row(int... values) {
        return values;
    }

    // ---- a new object

    private static void newObjectHasNothing() {
        Run.about("promise 1: no TOWNS, NOW is 0");
        Run r = new Run();
        for (int what = 0; what <= 6; what++) {
            r.due(0, "count", what);
        }
        for (String name : new String[] {"seconds", "queue", "on", "lacks", "plan", "planned"}) {
            r.due(NONE, name, 0);
        }
        r.due(NONE, "least", 0, 0).due(NONE, "out", 0, 0).due(NONE, "told", 0, 0).due(NONE, "at", 0, 0);
        r.due(NONE, "came", 0, 0, 0, 0).due(NONE, "road", 0, 1, 1, 1).due(NONE, "crowd", 0, 1, 1);
        r.due(NO, "clouds", 0, 0).due(NO, "hold", 0, 0).due(NO, "shut", 0, 0, 1).due(NO, "counted", 0, 0, 0);
        r.due(NONE, "foretold", 0).due(0, "foretold", 1).due(NONE, "planned", 1).due(0, "dawn", 20);
        r.due(0, "town", 0, 0);
        new Run().due(0, "count", 1);
    }

    private static void hoursGoOverNothing() {
        Run.about("promise 1: hours go where there is nothing");
        Run r = new Run().due(50, "go", 50).due(100, "go", 50).due(150, "go", 50).due(200, "go", 50);
        r.due(200, "go", 50).due(0, "count", 4).due(0, "count", 5).due(0, "count", 6).due(0, "foretold", 1);
        r.due(NONE, "out", 0, 0).due(NONE, "foretold", 0).due(NONE, "dawn", 0);
    }

    // ---- towns, seconds, clouds

    private static void farCanBe() {
        Run.about("promise 2: FAR is 0 .. 99");
        Run r = new Run();
        refuses(r, NONE, "town", 0, row(0, 7), -1, 100, LOW, HIGH);
        r.due(0, "count", 1).due(0, "town", 0, 7).due(1, "town", 99, 7);
        r.due(YES, "path", 100).due(300, "seconds", 0).due(42, "seconds", 1);
    }

    private static void waterCanBe() {
        Run.about("promise 2: WATER is 0 .. 1000000");
        Run r = new Run();
        refuses(r, NONE, "town", 1, row(7, 0), -1, 1000001, LOW, HIGH);
        r.due(0, "count", 1).due(0, "town", 7, 0).due(1, "town", 7, 1000000);
        r.due(0, "at", 0, 0).due(1000000, "at", 1, 0);
    }

    private static void tenTownsCome() {
        Run.about("promise 2: at most 10 TOWNS");
        Run r = new Run().due(NONE, "at", 0, 0).due(0, "town", 0, 0).due(0, "at", 0, 0).due(NONE, "at", 1, 0);
        for (int t = 1; t < 10; t++) {
            r.due(t, "town", t, t);
        }
        r.due(NONE, "town", 0, 0).due(10, "count", 1);
        r.due(147, "seconds", 9).due(9, "at", 9, 0).due(YES, "clouds", 9, 1).due(0, "least", 9, 9);
        r.due(0, "road", 8, 9, 1, 1).due(1, "least", 8, 9).due(0, "crowd", 8, 1, 9).due(10, "lacks", 9);
    }

    private static void noEleventhTown() {
        Run.about("promises 2, 4 to 8, 16, 23: no such TOWN");
        Run r = towns(10).due(0, "road", 0, 1, 1, 1);
        for (int none : row(-1, 10, LOW, HIGH)) {
            r.due(NONE, "seconds", none).due(NO, "clouds", none, 0).due(NONE, "lacks", none);
            r.due(NONE, "road", none, 1, 1, 1).due(NONE, "road", 0, none, 1, 1).due(NONE, "road", none, none, 1, 1);
            r.due(NONE, "least", none, 1).due(NONE, "least", 0, none).due(NONE, "least", none, none);
            r.due(NONE, "crowd", none, 1, 1).due(NONE, "crowd", 0, 1, none).due(NONE, "crowd", none, 1, none);
            r.due(NONE, "at", none, 0).due(NONE, "at", none, 1).due(NONE, "at", none, 2);
        }
        r.due(10, "count", 1).due(1, "count", 2).due(0, "count", 3);
    }

    private static void townsComeInAnyHour() {
        Run.about("promise 2: a TOWN comes in the hours 0, 1, 199 and 200");
        Run r = new Run().due(0, "town", 0, 3).goTo(1).due(1, "town", 0, 4).goTo(199).due(2, "town", 0, 5);
        r.goTo(200).due(3, "town", 0, 6).due(4, "count", 1);
        for (int t = 0; t < 4; t++) {
            r.due(3 + t, "at", t, 0).due(0, "at", t, 1).due(0, "at", t, 2).due(NONE, "lacks", t);
        }
    }

    private static void halfWidthCanBe() {
        Run.about("promise 3: W is 1 .. 100, 50 at first");
        Run r = new Run().due(0, "town", 0, 0).due(1, "town", 50, 0).due(150, "seconds", 0).due(0, "seconds", 1);
        refuses(r, NO, "path", 0, row(0), 0, -1, 101, LOW, HIGH);
        r.due(150, "seconds", 0).due(YES, "path", 1).due(3, "seconds", 0);
        refuses(r, NO, "path", 0, row(0), 0, 101);
        r.due(3, "seconds", 0).due(YES, "path", 100).due(300, "seconds", 0);
        refuses(r, NO, "path", 0, row(0), 0, 101);
        r.due(300, "seconds", 0);
    }

    private static void halfWidthIsToldInAnyHour() {
        Run.about("promise 3: W without TOWNS, and in the hours 199 and 200");
        Run r = new Run().due(YES, "path", 100).due(0, "town", 99, 0).due(42, "seconds", 0);
        r.goTo(199).due(YES, "path", 99).due(0, "seconds", 0).goTo(200).due(YES, "path", 100).due(42, "seconds", 0);
        r.due(NO, "path", 101).due(42, "seconds", 0);
    }

    private static void noSecondsAtTheRim() {
        Run.about("terms: 0 SECONDS if FAR isn't below W");
        Run r = new Run();
        for (int far : row(0, 1, 2, 49, 50, 51, 98, 99)) {
            r.call("town", far, 0);
        }
        int[][] due = {{1, 3, 0, 0, 0, 0, 0, 0, 0}, {2, 6, 3, 0, 0, 0, 0, 0, 0}, {49, 147, 144, 144, 0, 0, 0, 0, 0},
            {50, 150, 147, 147, 27, 0, 0, 0, 0}, {51, 153, 150, 150, 42, 30, 0, 0, 0},
            {99, 297, 294, 294, 258, 255, 252, 42, 0}, {100, 300, 297, 297, 261, 258, 258, 57, 42}};
        for (int[] row : due) {
            r.due(YES, "path", row[0]);
            for (int t = 0; t < 8; t++) {
                r.due(row[t + 1], "seconds", t);
            }
        }
    }

    private static void secondsAreGreatestWholeRoots() {
        Run.about("terms: SECONDS of each W and FAR");
        for (int first = 0; first < 100; first += 10) {
            for (int low = 1; low <= 100; low += 40) {
                Run r = new Run();
                for (int t = 0; t < 10; t++) {
                    r.due(t, "town", first + t, 0);
                }
                for (int w = low; w < low + 40 && w <= 100; w++) {
                    r.due(YES, "path", w);
                    for (int t = 0; t < 10; t++) {
                        lookAtSeconds(r.call("seconds", t), w, first + t);
                    }
                }
            }
        }
    }

    private static void lookAtSeconds(int got, int w, int far) {
        int rest = w * w - far * far;
        int root = got / 3;
        boolean right = rest <= 0 ? got == 0 : got % 3 == 0 && root * root <= rest && (root + 1) * (root + 1) > rest;
        if (!right) {
            Run.fault("SECONDS of FAR " + far + " and W " + w + " are " + got);
        }
    }

    private static void cloudsCanBe() {
        Run.about("promise 5: CLOUDS are 0 .. 100");
        Run r = new Run().due(NO, "clouds", 0, 0).due(0, "town", 0, 0).due(NO, "clouds", 1, 0);
        refuses(r, NO, "clouds", 1, row(0, 0), -1, 101, LOW, HIGH);
        r.due(YES, "clouds", 0, 0).due(YES, "clouds", 0, 100);
        r.goTo(199).due(YES, "clouds", 0, 1).goTo(200).due(YES, "clouds", 0, 99).due(NO, "clouds", 0, 101);
    }

    /** A crowd in town 0, a goal 1 an hour away from it, both in the middle of the path; its home 2 isn't. */
    private static Run twoSights() {
        Run r = new Run().due(0, "town", 0, 0).due(1, "town", 0, 0).due(2, "town", 99, 0);
        r.due(0, "road", 0, 2, 1, 1).due(1, "road", 0, 1, 1, 1).due(2, "road", 1, 2, 1, 1);
        return r.due(0, "crowd", 0, 1, 2);
    }

    private static void cloudsWeighFrom0To100() {
        Run.about("terms: CLOUDS are 0 at first; 100 of them leave nothing to see");
        twoSights().due(0, "dawn", 20).due(YES, "clouds", 0, 1).due(1, "dawn", 20).due(1, "told", 0, 0);
        twoSights().due(YES, "clouds", 1, 0).due(0, "dawn", 20);
        twoSights().due(YES, "clouds", 0, 100).due(YES, "clouds", 1, 100).due(0, "dawn", 20).due(0, "told", 0, 0);
        twoSights().due(YES, "clouds", 0, 100).due(YES, "clouds", 1, 99).due(1, "dawn", 20).due(1, "told", 0, 0);
    }

    private static void refusedCloudsStayAway() {
        Run.about("promise 5: refused CLOUDS change nothing");
        twoSights().due(NO, "clouds", 0, 101).due(NO, "clouds", 0, HIGH).due(0, "dawn", 20);
        twoSights().due(NO, "clouds", 1, -1).due(NO, "clouds", 1, LOW).due(0, "dawn", 20);
        twoSights().due(YES, "clouds", 0, 50).due(NO, "clouds", 0, -1).due(NO, "clouds", 0, 101).due(1, "dawn", 20);
    }

    // ---- roads

    private static void roadTownsAreTwo() {
        Run.about("promise 6: from one TOWN to another one");
        Run r = towns(2);
        refuses(r, NONE, "road", 0, row(0, 1, 1, 1), -1, 1, 2, LOW, HIGH);
        refuses(r, NONE, "road", 1, row(0, 1, 1, 1), -1, 0, 2, LOW, HIGH);
        r.due(0, "count", 2).due(NONE, "least", 0, 1).due(0, "road", 0, 1, 1, 1).due(1, "road", 1, 0, 1, 1);
        new Run().due(0, "town", 0, 0).due(NONE, "road", 0, 0, 1, 1).due(NONE, "road", 0, 1, 1, 1);
    }

    private static void roadIsOneWay() {
        Run.about("terms: a ROAD is one way");
        oneRoad(1, 4).due(4, "least", 0, 1).due(NONE, "least", 1, 0).due(NONE, "crowd", 1, 1, 0);
    }

    private static void roadCarsCanBe() {
        Run.about("promise 6: CARS of a ROAD are 1 .. 5000");
        Run r = towns(2);
        refuses(r, NONE, "road", 2, row(0, 1, 1, 1), 0, -1, 5001, LOW, HIGH);
        r.due(0, "count", 2).due(NONE, "least", 0, 1).due(0, "road", 0, 1, 1, 1).due(1, "road", 0, 1, 5000, 1);
        oneCrowd(1, 1, 3).due(1, "go", 1).due(1, "out", 0, 0).due(1, "on", 0).due(2, "queue", 0);
        oneCrowd(5000, 1, 5001).due(1, "go", 1).due(5000, "out", 0, 0).due(5000, "on", 0).due(1, "queue", 0);
    }

    private static void roadHoursCanBe() {
        Run.about("promise 6: HOURS of a ROAD are 1 .. 9");
        Run r = towns(2);
        refuses(r, NONE, "road", 3, row(0, 1, 1, 1), 0, -1, 10, LOW, HIGH);
        r.due(0, "count", 2).due(NONE, "least", 0, 1).due(0, "road", 0, 1, 1, 9).due(9, "least", 0, 1);
        r.due(1, "road", 0, 1, 1, 1).due(1, "least", 0, 1);
        oneCrowd(5, 1, 5).due(1, "go", 1).due(5, "on", 0).due(2, "go", 1).due(0, "on", 0).due(1, "told", 0, 5);
        oneCrowd(5, 9, 5).due(9, "go", 9).due(5, "on", 0).due(10, "go", 1).due(0, "on", 0).due(9, "told", 0, 5);
    }

    private static void sixteenRoadsCome() {
        Run.about("promise 6: at most 16 ROADS");
        Run r = towns(2).due(0, "count", 2).due(NONE, "queue", 0).due(0, "road", 0, 1, 1, 2).due(0, "queue", 0);
        r.due(NONE, "queue", 1);
        for (int n = 1; n < 16; n++) {
            r.due(n, "road", n % 2, 1 - n % 2, 1, n == 14 ? 1 : 2);
        }
        r.due(NONE, "road", 0, 1, 1, 1).due(NONE, "road", 1, 0, 1, 1).due(16, "count", 2).due(2, "least", 1, 0);
        r.due(0, "crowd", 0, 2, 1).due(YES, "shut", 15, 0, 1).due(1, "go", 1).due(0, "queue", 15).due(0, "on", 15);
        r.due(1, "on", 14).due(0, "out", 15, 0).due(1, "out", 14, 0).due(0, "came", 15, 0, 0, 1);
        r.due(1, "came", 14, 0, 0, 1).due(YES, "counted", 15, 0, 5).due(5, "came", 15, 0, 0, 0);
    }

    private static void noSeventeenthRoad() {
        Run.about("promises 11, 13, 14, 19 to 21: no such ROAD");
        Run r = towns(2);
        for (int n = 0; n < 16; n++) {
            r.due(n, "road", 0, 1, 1, 1);
        }
        r.due(1, "go", 1);
        for (int none : row(-1, 16, LOW, HIGH)) {
            r.due(NO, "shut", none, 1, 2).due(NONE, "queue", none).due(NONE, "on", none).due(NONE, "out", none, 0);
            r.due(NO, "counted", none, 0, 1).due(NONE, "came", none, 0, 0, 0).due(NONE, "came", none, 0, 0, 1);
        }
        r.due(0, "queue", 15).due(0, "on", 15).due(0, "out", 15, 0).due(0, "came", 15, 0, 0, 0);
    }

    private static void roadsComeInHour0() {
        Run.about("promise 6: NONE if NOW isn't 0");
        Run r = oneRoad(1, 9).due(0, "go", 0).due(1, "road", 0, 1, 1, 8).due(8, "least", 0, 1).due(1, "go", 1);
        r.due(NONE, "road", 0, 1, 1, 1).goTo(199).due(NONE, "road", 0, 1, 1, 1).goTo(200);
        r.due(NONE, "road", 0, 1, 1, 1).due(2, "count", 2).due(8, "least", 0, 1);
    }

    private static void leastToItself() {
        Run.about("promise 7: LEAST is 0 to itself");
        Run r = towns(10).due(0, "least", 0, 0).due(0, "least", 9, 9).due(0, "road", 0, 9, 1, 1);
        r.due(1, "road", 9, 0, 1, 1).due(0, "least", 0, 0).due(0, "least", 9, 9).due(0, "least", 5, 5);
    }

    private static void leastWithoutAWay() {
        Run.about("promise 7: NONE if there is no way, or none such");
        Run r = towns(3).due(NONE, "least", 0, 1).due(0, "road", 0, 1, 1, 1).due(1, "least", 0, 1);
        r.due(NONE, "least", 1, 0).due(NONE, "least", 0, 2).due(NONE, "least", 2, 0).due(NONE, "least", 3, 3);
        r.due(NONE, "least", 0, 3).due(NONE, "least", 3, 0).due(NONE, "least", -1, -1).due(NONE, "least", 0, -1);
        r.due(NONE, "least", -1, 0).due(NONE, "least", HIGH, LOW).due(NONE, "least", LOW, HIGH);
    }

    private static void leastOverAllTowns() {
        Run.about("promise 7: LEAST over the most ROADS of the most HOURS");
        Run r = towns(10);
        for (int t = 8; t >= 0; t--) {
            r.due(8 - t, "road", t, t + 1, 5000, 9);
        }
        r.due(81, "least", 0, 9).due(72, "least", 0, 8).due(72, "least", 1, 9).due(NONE, "least", 9, 0);
        r.due(0, "crowd", 0, 5000, 9).due(81, "foretold", 0).goTo(81).due(0, "count", 4).due(82, "go", 1);
        r.due(5000, "count", 4).due(81, "told", 0, 5);
    }

    private static void leastOfSeveralWays() {
        Run.about("terms: LEAST is the least sum");
        Run r = towns(4).due(0, "road", 0, 3, 1, 9).due(1, "road", 0, 1, 1, 3).due(2, "road", 1, 2, 1, 3);
        r.due(3, "road", 2, 3, 1, 3).due(9, "least", 0, 3).due(4, "road", 2, 3, 1, 2).due(8, "least", 0, 3);
        r.due(5, "road", 0, 3, 1, 7).due(7, "least", 0, 3).due(6, "road", 0, 3, 1, 8).due(7, "least", 0, 3);
    }

    private static void wayGoesByTheLeastNumber() {
        Run.about("terms: of several ROADS the WAY takes the least number");
        Run r = towns(2).due(0, "road", 0, 1, 9, 3).due(1, "road", 0, 1, 9, 2).due(2, "road", 0, 1, 9, 2);
        r.due(0, "crowd", 0, 4, 1).due(1, "go", 1).due(0, "on", 0).due(4, "on", 1).due(0, "on", 2);
        Run way = towns(3).due(0, "road", 1, 2, 9, 1).due(1, "road", 0, 1, 9, 1).due(2, "road", 0, 2, 9, 2);
        way.due(0, "crowd", 0, 4, 2).due(1, "go", 1).due(4, "on", 1).due(0, "on", 2);
        Run other = towns(3).due(0, "road", 1, 2, 9, 1).due(1, "road", 0, 2, 9, 2).due(2, "road", 0, 1, 9, 1);
        other.due(0, "crowd", 0, 4, 2).due(1, "go", 1).due(4, "on", 1).due(0, "on", 2);
    }

    // ---- crowds and dawn

    private static void crowdCarsCanBe() {
        Run.about("promise 8: CARS of a CROWD are 1 .. 20000");
        Run r = oneRoad(1, 1);
        refuses(r, NONE, "crowd", 1, row(0, 1, 1), 0, -1, 20001, LOW, HIGH);
        r.due(0, "count", 3).due(0, "at", 0, 1).due(0, "crowd", 0, 1, 1).due(1, "crowd", 0, 20000, 1);
        r.due(1, "told", 0, 1).due(20000, "told", 1, 1).due(20001, "at", 0, 1);
    }

    private static void crowdHomeIsAnotherTown() {
        Run.about("promise 8: both are one, or HOME can't be reached");
        Run r = towns(3).due(NONE, "crowd", 0, 1, 1).due(0, "road", 0, 1, 1, 1).due(NONE, "crowd", 0, 1, 0);
        r.due(NONE, "crowd", 1, 1, 1).due(NONE, "crowd", 1, 1, 0).due(NONE, "crowd", 0, 1, 2);
        r.due(NONE, "crowd", 2, 1, 0).due(0, "count", 3).due(1, "road", 1, 2, 1, 1).due(0, "crowd", 0, 1, 2);
        r.due(0, "told", 0, 0).due(2, "told", 0, 2).due(0, "told", 0, 3);
    }

    private static void eightCrowdsCome() {
        Run.about("promise 8: at most 8 CROWDS");
        Run r = oneRoad(1, 1).due(0, "count", 3).due(NONE, "told", 0, 1).due(0, "crowd", 0, 1, 1);
        r.due(1, "told", 0, 1).due(NONE, "told", 1, 1);
        for (int c = 1; c < 8; c++) {
            r.due(c, "crowd", 0, c + 1, 1);
        }
        r.due(NONE, "crowd", 0, 1, 1).due(8, "count", 3).due(36, "at", 0, 1).due(YES, "hold", 7, 3);
        r.due(8, "told", 7, 1).due(3, "told", 7, 3);
    }

    private static void noNinthCrowd() {
        Run.about("promises 10, 17, 22: no such CROWD");
        Run r = oneRoad(1, 1);
        for (int c = 0; c < 8; c++) {
            r.due(c, "crowd", 0, 1, 1);
        }
        for (int c = 4; c < 8; c++) {
            r.due(YES, "hold", c, 9);
        }
        r.due(1, "go", 1).due(4, "plan", 7);
        for (int none : row(-1, 8, LOW, HIGH)) {
            r.due(NO, "hold", none, 5).due(NONE, "plan", none);
            for (int what = 0; what <= 5; what++) {
                r.due(NONE, "told", none, what);
            }
        }
    }

    private static void crowdsComeInHour0() {
        Run.about("promise 8: NONE if NOW isn't 0");
        Run r = oneRoad(1, 1).due(0, "go", 0).due(0, "crowd", 0, 1, 1).due(1, "go", 1).due(NONE, "crowd", 0, 1, 1);
        r.goTo(199).due(NONE, "crowd", 0, 1, 1).goTo(200).due(NONE, "crowd", 0, 1, 1).due(1, "count", 3);
        r.due(0, "at", 0, 1).due(1, "at", 1, 1);
    }

    private static void dawnHoursCanBe() {
        Run.about("promise 9: hours are 0 .. 20");
        Run r = twoSights().due(YES, "clouds", 0, 9);
        refuses(r, NONE, "dawn", 0, row(0), -1, 21, LOW, HIGH);
        r.due(0, "told", 0, 0).due(1, "at", 0, 1).due(0, "dawn", 0).due(0, "told", 0, 0);
        r.due(1, "dawn", 1).due(1, "told", 0, 0).due(0, "at", 0, 1).due(1, "at", 1, 1);
        twoSights().due(YES, "clouds", 0, 9).due(1, "dawn", 20).due(0, "dawn", 20);
    }

    private static void dawnOnlyInHour0() {
        Run.about("promise 9: NONE if NOW isn't 0");
        Run r = twoSights().due(YES, "clouds", 0, 9).due(YES, "hold", 0, 199).due(0, "go", 0).due(1, "go", 1);
        r.due(NONE, "dawn", 20).goTo(199).due(NONE, "dawn", 20).due(NONE, "dawn", 0).goTo(200);
        r.due(NONE, "dawn", 20).due(0, "told", 0, 0);
        twoSights().due(YES, "clouds", 0, 9).due(0, "go", 0).due(1, "dawn", 20);
    }

    /** The only better sight is so many hours away: 9, 9 and what is left. */
    private static Run farSight(int hoursAway) {
        Run r = new Run().due(0, "town", 40, 0).due(1, "town", 45, 0).due(2, "town", 45, 0).due(3, "town", 0, 0);
        r.due(4, "town", 99, 0).due(0, "road", 0, 1, 1, 9).due(1, "road", 1, 2, 1, 9);
        r.due(2, "road", 2, 3, 1, hoursAway - 18).due(3, "road", 3, 4, 1, 1);
        return r.due(0, "crowd", 0, 1, 4);
    }

    private static void dawnGoesAsFarAsTold() {
        Run.about("terms, DAWN: LEAST isn't above so many HOURS as told");
        farSight(19).due(0, "dawn", 18).due(1, "dawn", 19).due(3, "told", 0, 0);
        farSight(20).due(0, "dawn", 19).due(0, "told", 0, 0).due(1, "dawn", 20).due(3, "told", 0, 0);
        farSight(21).due(0, "dawn", 20).due(NONE, "dawn", 21).due(0, "told", 0, 0);
    }

    private static void dawnOfNoneOneAndEight() {
        Run.about("promise 9: how many CROWDS turn");
        Run none = new Run().due(0, "dawn", 0).due(0, "dawn", 20).due(NONE, "dawn", 21);
        none.due(0, "town", 0, 0).due(0, "dawn", 20);
        Run r = twoSights().due(YES, "clouds", 0, 1);
        for (int c = 1; c < 8; c++) {
            r.due(c, "crowd", c == 4 ? 1 : 0, 1, 2);
        }
        r.due(7, "dawn", 20).due(0, "dawn", 20).due(0, "at", 0, 1).due(8, "at", 1, 1);
        for (int c = 0; c < 8; c++) {
            r.due(1, "told", c, 0);
        }
    }

    /** The product where the crowd is, and that of the goal, in thirds: roots of 10 and 7, times what clouds leave. */
    private static Run sights(int hereFar, int hereClouds, int goalFar, int goalClouds) {
        Run r = new Run().due(YES, "path", 10).due(0, "town", hereFar, 0).due(1, "town", goalFar, 0);
        r.due(2, "town", 99, 0).due(0, "road", 0, 2, 1, 1).due(1, "road", 0, 1, 1, 1).due(2, "road", 1, 2, 1, 1);
        return r.due(YES, "clouds", 0, hereClouds).due(YES, "clouds", 1, goalClouds).due(0, "crowd", 0, 1, 2);
    }

    private static void dawnOnlyToMore() {
        Run.about("terms, DAWN: only if that product is above that of where it is");
        sights(7, 93, 0, 95).due(1, "dawn", 20).due(1, "told", 0, 0);
        sights(0, 95, 0, 95).due(0, "dawn", 20).due(0, "told", 0, 0);
        sights(0, 95, 7, 93).due(0, "dawn", 20).due(0, "told", 0, 0);
        sights(10, 0, 9, 100).due(0, "dawn", 20).due(0, "told", 0, 0);
    }

    private static void dawnNotToHome() {
        Run.about("terms, DAWN: a goal isn't its HOME");
        Run r = new Run().due(0, "town", 40, 0).due(1, "town", 0, 0).due(0, "road", 0, 1, 1, 1);
        r.due(0, "crowd", 0, 1, 1).due(0, "dawn", 20).due(0, "told", 0, 0);
    }

    private static void dawnNotToADeadEnd() {
        Run.about("terms, DAWN: HOME can be reached from a goal");
        Run r = new Run().due(0, "town", 40, 0).due(1, "town", 99, 0).due(2, "town", 0, 0).due(0, "road", 0, 1, 1, 1);
        r.due(1, "road", 0, 2, 1, 1).due(0, "crowd", 0, 1, 1).due(0, "dawn", 20).due(2, "road", 2, 1, 1, 9);
        r.due(1, "dawn", 20).due(2, "told", 0, 0);
    }

    private static void dawnNotToWhereNoRoadGoes() {
        Run.about("terms, DAWN: a goal has a LEAST from where the CROWD is");
        Run r = new Run().due(0, "town", 40, 0).due(1, "town", 99, 0).due(2, "town", 0, 0).due(0, "road", 0, 1, 1, 1);
        r.due(1, "road", 2, 1, 1, 1).due(0, "crowd", 0, 1, 1).due(0, "dawn", 20).due(0, "told", 0, 0);
    }

    private static Run twoGoals(int hoursToFirst, int hoursToSecond) {
        Run r = new Run().due(0, "town", 0, 0).due(1, "town", 40, 0).due(2, "town", 0, 0).due(3, "town", 99, 0);
        r.due(0, "road", 1, 0, 1, hoursToFirst).due(1, "road", 1, 2, 1, hoursToSecond);
        r.due(2, "road", 0, 3, 1, 1).due(3, "road", 2, 3, 1, 1);
        return r.due(0, "crowd", 1, 1, 3);
    }

    private static void dawnOfLikeGoals() {
        Run.about("terms, DAWN: of like ones the first by LEAST, then by numbers");
        twoGoals(3, 2).due(1, "dawn", 20).due(2, "told", 0, 0);
        twoGoals(2, 3).due(1, "dawn", 20).due(0, "told", 0, 0);
        twoGoals(2, 2).due(1, "dawn", 20).due(0, "told", 0, 0);
        twoGoals(3, 2).due(YES, "clouds", 2, 1).due(1, "dawn", 20).due(0, "told", 0, 0);
        twoGoals(2, 9).due(YES, "clouds", 0, 1).due(1, "dawn", 9).due(2, "told", 0, 0);
    }

    // ---- hold, shut, go

    private static void holdHoursCanBe() {
        Run.about("promise 10: an HOUR is NOW .. 199");
        Run r = oneCrowd(5, 1, 5);
        refuses(r, NO, "hold", 1, row(0, 0), -1, 200, LOW, HIGH);
        r.due(0, "told", 0, 3).due(YES, "hold", 0, 0).due(0, "told", 0, 3);
        r.due(YES, "hold", 0, 199).due(199, "told", 0, 3).due(5, "go", 5);
        refuses(r, NO, "hold", 1, row(0, 0), 4, 0, -1, 200);
        r.due(199, "told", 0, 3).due(YES, "hold", 0, 5).due(5, "told", 0, 3).due(YES, "hold", 0, 199);
        r.goTo(199).due(NO, "hold", 0, 198).due(NO, "hold", 0, 200).due(YES, "hold", 0, 199);
        r.due(0, "on", 0).due(5, "at", 0, 1).goTo(200).due(5, "on", 0).due(0, "at", 0, 1);
        r.due(NO, "hold", 0, 199).due(NO, "hold", 0, 200).due(199, "told", 0, 3);
    }

    private static void holdBeforeItIsLetGo() {
        Run.about("promise 10: false if it is let go already");
        Run r = oneCrowd(5, 1, 5).due(YES, "hold", 0, 0).due(0, "go", 0).due(YES, "hold", 0, 1).due(1, "go", 1);
        r.due(0, "on", 0).due(YES, "hold", 0, 1).due(2, "go", 1).due(5, "on", 0);
        r.due(NO, "hold", 0, 2).due(NO, "hold", 0, 1).due(NO, "hold", 0, 199).due(1, "told", 0, 3);
        r.due(3, "go", 1).due(NO, "hold", 0, 3).due(NO, "hold", 0, 199).due(5, "told", 0, 4);
    }

    private static void holdOfNoSuchCrowd() {
        Run.about("promise 10: false if there is none such");
        oneRoad(1, 1).due(NO, "hold", 0, 0).due(0, "crowd", 0, 1, 1).due(YES, "hold", 0, 0).due(NO, "hold", 1, 0);
    }

    private static void shutFromNowOn() {
        Run.about("promise 11: false if from is below NOW");
        Run r = oneCrowd(1, 1, 9).due(NO, "shut", 0, -1, 5).due(NO, "shut", 0, LOW, HIGH).due(YES, "shut", 0, 0, 1);
        r.due(3, "go", 3).due(0, "out", 0, 0).due(1, "out", 0, 1).due(NO, "shut", 0, 2, 9).due(NO, "shut", 0, 0, 9);
        r.due(YES, "shut", 0, 3, 4).due(5, "go", 2).due(0, "out", 0, 3).due(1, "out", 0, 4);
    }

    private static void shutToIsAboveFrom() {
        Run.about("promise 11: false if to isn't above from");
        Run r = oneCrowd(1, 1, 9).due(NO, "shut", 0, 0, 0).due(NO, "shut", 0, 2, 1).due(NO, "shut", 0, 2, 2);
        r.due(NO, "shut", 0, 2, -1).due(NO, "shut", 0, 2, LOW).due(NO, "shut", 0, HIGH, LOW).due(NO, "shut", 0, HIGH, HIGH);
        r.due(YES, "shut", 0, 2, 3).due(NO, "shut", 0, 4, 4).due(5, "go", 5);
        int[] outs = {1, 1, 0, 1, 1};
        for (int h = 0; h < outs.length; h++) {
            r.due(outs[h], "out", 0, h);
        }
    }

    private static void shutSpanEnds() {
        Run.about("terms: SHUT from an HOUR to another one, that one not");
        Run r = oneCrowd(2, 1, 9).due(YES, "shut", 0, 1, 4).due(3, "go", 3).due(7, "queue", 0).due(4, "go", 1);
        r.due(7, "queue", 0).due(5, "go", 1).due(5, "queue", 0);
        int[] outs = {2, 0, 0, 0, 2};
        for (int h = 0; h < outs.length; h++) {
            r.due(outs[h], "out", 0, h);
        }
    }

    private static void shutInTheLastHour() {
        Run.about("promise 11: the hours 199 and 200");
        Run r = oneCrowd(1, 1, 5).due(YES, "hold", 0, 199).due(YES, "shut", 0, 199, 200).goTo(199);
        r.due(NO, "shut", 0, 198, 200).due(NO, "shut", 0, 199, 199).goTo(200).due(0, "out", 0, 199).due(5, "queue", 0);
        r.due(0, "came", 0, 199, 199, 1).due(NO, "shut", 0, 199, 201).due(5, "count", 6);
        Run late = oneCrowd(1, 1, 5).due(YES, "hold", 0, 199).goTo(199).due(YES, "shut", 0, 199, 200).goTo(200);
        late.due(0, "out", 0, 199).due(5, "queue", 0);
        Run beside = oneCrowd(1, 1, 5).due(YES, "hold", 0, 198).due(YES, "shut", 0, 198, 199).goTo(200);
        beside.due(0, "out", 0, 198).due(1, "out", 0, 199);
    }

    private static void shutForEver() {
        Run.about("promise 11: only what it names is refused");
        Run r = oneCrowd(1, 1, 5).due(YES, "shut", 0, 0, HIGH).due(NONE, "foretold", 0).due(1000, "foretold", 1);
        r.goTo(200).due(0, "count", 4).due(5, "count", 5).due(0, "came", 0, 0, 199, 1);
        Run behind = oneCrowd(1, 1, 5).due(YES, "shut", 0, HIGH - 1, HIGH).due(5, "foretold", 0).due(10, "foretold", 1);
        behind.goTo(200).due(5, "count", 4);
    }

    private static void oneSpanOfARoad() {
        Run.about("terms: one such span each");
        Run r = towns(2).due(0, "road", 0, 1, 1, 1).due(1, "road", 1, 0, 1, 1).due(0, "crowd", 0, 9, 1);
        r.due(1, "crowd", 1, 9, 0).due(YES, "shut", 0, 0, 2).due(YES, "shut", 1, 1, 2).due(YES, "shut", 0, 3, 4);
        r.due(NO, "shut", 0, 5, 5).due(5, "go", 5);
        int[] first = {1, 1, 1, 0, 1};
        int[] second = {1, 0, 1, 1, 1};
        for (int h = 0; h < 5; h++) {
            r.due(first[h], "out", 0, h).due(second[h], "out", 1, h);
        }
    }

    private static void goHoursCanBe() {
        Run.about("promise 12: n is 0 .. 50");
        Run r = oneCrowd(1, 1, 9);
        refuses(r, NONE, "go", 0, row(0), -1, 51, LOW, HIGH);
        r.due(0, "count", 0).due(9, "at", 0, 1).due(0, "go", 0).due(0, "count", 0).due(9, "at", 0, 1);
        r.due(1, "go", 1).due(51, "go", 50).due(NONE, "go", 51).due(51, "count", 0);
    }

    private static void goUpTo200() {
        Run.about("promise 12: up to 200");
        Run r = oneCrowd(1, 1, 250).goTo(199).due(29850, "count", 6).due(198, "count", 4).due(NONE, "out", 0, 199);
        r.due(200, "go", 50).due(29900, "count", 6).due(199, "count", 4).due(1, "on", 0).due(50, "queue", 0);
        r.due(1, "out", 0, 199).due(200, "go", 1).due(200, "go", 50).due(200, "go", 0).due(NONE, "go", 51);
        r.due(NONE, "go", -1).due(29900, "count", 6).due(199, "count", 4).due(1, "on", 0).due(50, "queue", 0);
        r.due(NONE, "out", 0, 200).due(1000000 - 199 * 200 / 2, "at", 1, 0).due(1000000 - 29900, "at", 0, 0);
        oneRoad(1, 1).goTo(150).due(200, "go", 50);
        oneRoad(1, 1).goTo(151).due(200, "go", 50);
        oneRoad(1, 1).goTo(149).due(199, "go", 50).due(200, "go", 1);
    }

    // ---- queues and what is on roads

    private static void asManySetOutAsCan() {
        Run.about("terms, AN HOUR (3): so many CARS of the queue set out as can");
        int[][] rows = {{9, 9, 0}, {10, 10, 0}, {11, 10, 1}, {20000, 10, 19990}};
        for (int[] row : rows) {
            Run r = oneCrowd(10, 1, row[0]).due(0, "queue", 0).due(0, "on", 0).due(1, "go", 1);
            r.due(row[1], "on", 0).due(row[2], "queue", 0).due(row[1], "out", 0, 0).due(row[2], "count", 6);
        }
    }

    private static void theMostOnARoad() {
        Run.about("promise 14: CARS of nine HOURS on one ROAD");
        Run r = oneCrowd(5000, 9, 20000).due(1, "crowd", 0, 20000, 1).due(2, "crowd", 0, 20000, 1);
        r.due(8, "go", 8).due(40000, "on", 0).due(9, "go", 1).due(45000, "on", 0).due(0, "count", 4);
        r.due(10, "go", 1).due(45000, "on", 0).due(5000, "count", 4).due(13, "go", 3).due(40000, "on", 0);
        r.due(20000, "told", 0, 4).due(12, "told", 0, 5).due(0, "told", 1, 4).due(0, "queue", 0);
    }

    private static void theMostInAQueue() {
        Run.about("promises 13, 23, 24: eight CROWDS of 20000 in one queue for 200 hours");
        Run r = oneRoad(1, 1);
        for (int c = 0; c < 8; c++) {
            r.due(c, "crowd", 0, 20000, 1);
        }
        r.due(160000, "at", 0, 1).due(NONE, "foretold", 0).due(31979900, "foretold", 1).due(6, "lacks", 0);
        r.goTo(200).due(159800, "queue", 0).due(159800, "count", 5).due(1, "on", 0).due(199, "count", 4);
        r.due(31979900, "count", 6).due(0, "at", 0, 0).due(30979900, "at", 0, 2).due(159800, "at", 0, 1);
        r.due(980100, "at", 1, 0).due(0, "at", 1, 2).due(199, "at", 1, 1).due(199, "told", 0, 4).due(NONE, "told", 0, 5);
    }

    /** Cars come to town 2 by the roads 0 and 1 in one hour, and queue there at the road 2 of one car an hour. */
    private static void carsComeByRoadsInTheirOrder() {
        Run.about("terms, AN HOUR (1), (2): ROADS by numbers, then CROWDS by numbers");
        Run r = towns(4).due(0, "road", 1, 2, 5, 2).due(1, "road", 0, 2, 5, 2).due(2, "road", 2, 3, 1, 1);
        r.due(0, "crowd", 2, 1, 3).due(1, "crowd", 0, 1, 3).due(2, "crowd", 1, 1, 3).due(3, "crowd", 2, 1, 3);
        r.due(YES, "hold", 0, 2).due(YES, "hold", 3, 2).goTo(7);
        int[] came = {5, 4, 3, 6};
        for (int c = 0; c < 4; c++) {
            r.due(came[c], "told", c, 5);
        }
    }

    /** Five crowds of one car an hour each, that go on together by four roads: each comes home five hours later. */
    private static void carsAreNeverLost() {
        Run.about("terms, AN HOUR: for 200 hours CARS of five CROWDS come and go one by one");
        Run r = towns(10);
        for (int t = 0; t < 5; t++) {
            r.due(t, "road", t, 5, 1, 1);
        }
        for (int t = 5; t < 9; t++) {
            r.due(t, "road", t, t + 1, 5000, 1);
        }
        for (int c = 0; c < 5; c++) {
            r.due(c, "crowd", c, 400, 9);
        }
        r.goTo(199).due(5 * 194, "count", 4).goTo(200).due(5 * 195, "count", 4).due(5 * 200, "count", 5);
        for (int c = 0; c < 5; c++) {
            r.due(195, "told", c, 4).due(1, "on", c).due(5, "on", 5 + Math.min(c, 3));
        }
    }

    /** Eight crowds mixed car by car wait before a shut road; only then it is asked what will be. */
    private static void longestQueueIsForeseen() {
        Run.about("promise 15: a queue of single CARS of eight CROWDS");
        Run r = towns(10).due(0, "road", 8, 9, 5000, 1);
        for (int t = 0; t < 8; t++) {
            r.due(1 + t, "road", t, 8, 1, 1).due(t, "crowd", t, 150, 9);
        }
        r.due(YES, "shut", 0, 0, 198).goTo(197).due(8 * 150, "queue", 0).due(199, "foretold", 0);
        r.due(8 * 150, "foretold", 1).goTo(200).due(8 * 150, "count", 4);
        for (int c = 0; c < 8; c++) {
            r.due(199, "told", c, 5);
        }
    }

    // ---- what is foretold

    private static void foretoldOfOtherWhats() {
        Run.about("promise 15: NONE for others");
        Run r = oneCrowd(1, 1, 3);
        refuses(r, NONE, "foretold", 0, row(0), -1, 2, LOW, HIGH);
        r.due(3, "foretold", 0).due(3, "foretold", 1);
    }

    private static void foretoldUpToHour199() {
        Run.about("terms, FORETOLD: up to HOUR 199");
        oneCrowd(5, 1, 5).due(YES, "hold", 0, 198).due(199, "foretold", 0).due(YES, "hold", 0, 199).due(NONE, "foretold", 0);
        oneCrowd(5, 9, 5).due(YES, "hold", 0, 190).due(199, "foretold", 0).due(YES, "hold", 0, 191).due(NONE, "foretold", 0);
        oneCrowd(1, 1, 199).due(199, "foretold", 0).due(199 * 198 / 2, "foretold", 1);
        oneCrowd(1, 1, 200).due(NONE, "foretold", 0).due(200 * 199 / 2, "foretold", 1);
        oneCrowd(1, 1, 5).due(YES, "hold", 0, 199).due(4, "foretold", 1);
    }

    private static void foretoldInTheLastHours() {
        Run.about("promise 15: in the hours 199 and 200");
        Run r = oneCrowd(5, 1, 5).due(YES, "hold", 0, 198).goTo(199).due(199, "foretold", 0).due(0, "foretold", 1);
        r.goTo(200).due(199, "foretold", 0).due(0, "foretold", 1);
        Run late = oneCrowd(1, 1, 5).due(YES, "hold", 0, 199).goTo(199).due(NONE, "foretold", 0).due(4, "foretold", 1);
        late.goTo(200).due(NONE, "foretold", 0).due(0, "foretold", 1).due(4, "count", 6);
    }

    private static void foretoldOfNoneAndOne() {
        Run.about("terms, FORETOLD: of no CAR and of one");
        oneRoad(1, 1).due(NONE, "foretold", 0).due(0, "foretold", 1).goTo(200).due(NONE, "foretold", 0);
        Run r = oneCrowd(1, 1, 1).due(1, "foretold", 0).due(0, "foretold", 1).due(1, "go", 1).due(1, "foretold", 0);
        r.due(2, "go", 1).due(1, "foretold", 0).goTo(200).due(1, "foretold", 0).due(0, "foretold", 1);
    }

    /** One car that can't leave takes one of the water in each hour. */
    private static Run oneThirsty(int water) {
        Run r = new Run().due(0, "town", 0, water).due(1, "town", 0, 0).due(0, "road", 0, 1, 1, 1);
        return r.due(0, "crowd", 0, 1, 1).due(YES, "shut", 0, 0, 200);
    }

    private static void lacksUpToHour199() {
        Run.about("promise 16: the HOUR in which WATER first LACKS, up to 199");
        oneThirsty(0).due(0, "lacks", 0).due(1, "go", 1).due(1, "at", 0, 2).due(1, "lacks", 0);
        oneThirsty(1).due(1, "lacks", 0).due(1, "go", 1).due(0, "at", 0, 2).due(0, "at", 0, 0).due(1, "lacks", 0);
        oneThirsty(199).due(199, "lacks", 0).goTo(199).due(199, "lacks", 0).due(0, "at", 0, 2).due(0, "at", 0, 0)
            .goTo(200).due(1, "at", 0, 2).due(NONE, "lacks", 0);
        oneThirsty(200).due(NONE, "lacks", 0).goTo(199).due(NONE, "lacks", 0).due(1, "at", 0, 0)
            .goTo(200).due(0, "at", 0, 2).due(0, "at", 0, 0).due(NONE, "lacks", 0);
    }

    private static void lacksOnlyWhereCarsAre() {
        Run.about("promise 16: NONE if it doesn't, or there is none such");
        Run r = oneThirsty(5).due(NONE, "lacks", 1).due(NONE, "lacks", 2).due(NONE, "lacks", -1).due(NONE, "lacks", HIGH);
        r.due(NONE, "lacks", LOW).due(5, "lacks", 0);
        new Run().due(NONE, "lacks", 0).due(0, "town", 0, 0).due(NONE, "lacks", 0);
    }

    /** Water of the first town for a crowd of ten that is let go in hour 1, at ten cars an hour. */
    private static Run tenThirsty(int water) {
        Run r = new Run().due(0, "town", 0, water).due(1, "town", 0, 15).due(0, "road", 0, 1, 10, 1);
        return r.due(0, "crowd", 0, 10, 1).due(YES, "hold", 0, 1);
    }

    private static void waterIsTakenToTheLast() {
        Run.about("terms, AN HOUR (4): what can't be taken is LACKED");
        tenThirsty(10).due(NONE, "lacks", 0).due(1, "go", 1).due(0, "at", 0, 0).due(0, "at", 0, 2)
            .due(2, "go", 1).due(0, "at", 0, 2);
        tenThirsty(9).due(0, "lacks", 0).due(1, "go", 1).due(0, "at", 0, 0).due(1, "at", 0, 2)
            .due(2, "go", 1).due(1, "at", 0, 2);
        tenThirsty(11).due(3, "lacks", 1).due(1, "go", 1).due(1, "at", 0, 0).due(3, "go", 2).due(1, "at", 0, 0)
            .due(5, "at", 1, 0).due(4, "go", 1).due(0, "at", 1, 0).due(5, "at", 1, 2);
    }

    // ---- plans

    private static Run crowdsOfTen(int many) {
        Run r = oneRoad(10, 1);
        for (int c = 0; c < many; c++) {
            r.due(c, "crowd", 0, 10, 1);
        }
        return r;
    }

    private static void planOfNoneToFive() {
        Run.about("promises 17, 18: 1 to 4 CROWDS that aren't let go");
        for (int many = 0; many <= 8; many++) {
            boolean can = many >= 1 && many <= 4;
            Run r = crowdsOfTen(many);
            for (int c = 0; c < 8; c++) {
                r.due(can && c < many ? c : NONE, "plan", c);
            }
            r.due(can ? many : NONE, "planned", 0).due(can ? 0 : NONE, "planned", 1);
        }
    }

    private static void planOfThoseNotLetGo() {
        Run.about("promises 17, 18: those that are let go already don't count");
        Run r = crowdsOfTen(8);
        for (int c = 3; c < 8; c++) {
            r.due(YES, "hold", c, c);
        }
        r.due(1, "go", 1).due(NONE, "plan", 3).due(NONE, "planned", 0).goTo(3).due(NONE, "plan", 7);
        r.goTo(4).due(NONE, "plan", 3).due(4, "plan", 4).due(5, "plan", 5).due(6, "plan", 6).due(7, "plan", 7);
        r.due(8, "planned", 0).due(0, "planned", 1).goTo(7).due(NONE, "plan", 6).due(7, "plan", 7).goTo(8);
        r.due(NONE, "plan", 7).due(NONE, "planned", 0).due(NONE, "planned", 1);
    }

    private static void planUpToThreeHoursLater() {
        Run.about("terms, PLAN: let go in NOW or up to three HOURS later");
        int[][] rows = {{1, 1, 2, 0}, {2, 2, 3, 0}, {3, 3, 4, 0}, {4, 3, 5, 10}, {5, 3, 6, 20}};
        for (int now : row(0, 6)) {
            for (int[] row : rows) {
                Run r = crowdsOfTen(1).due(YES, "hold", 0, 199).goTo(now).due(YES, "shut", 0, now, now + row[0]);
                r.due(now + row[1], "plan", 0).due(now + row[2], "planned", 0).due(row[3], "planned", 1);
            }
        }
    }

    private static void planOfLikeWays() {
        Run.about("terms, PLAN: of like ones the first one");
        Run r = towns(4).due(0, "road", 0, 1, 10, 9).due(1, "road", 2, 3, 10, 1).due(0, "crowd", 0, 10, 1);
        r.due(1, "crowd", 2, 10, 3).due(0, "plan", 0).due(0, "plan", 1).due(9, "planned", 0).due(YES, "hold", 1, 50);
        r.due(2, "go", 2).due(NONE, "plan", 0).due(2, "plan", 1).due(9, "planned", 0);
        crowdsOfTen(2).due(0, "plan", 0).due(1, "plan", 1);
    }

    private static void planNotTill199() {
        Run.about("terms, PLAN: not till 199 counts as 200");
        Run r = crowdsOfTen(1).due(YES, "hold", 0, 199).goTo(197).due(197, "plan", 0).due(198, "planned", 0);
        r.goTo(198).due(198, "plan", 0).due(199, "planned", 0).due(0, "planned", 1);
        r.goTo(199).due(199, "plan", 0).due(200, "planned", 0).due(0, "planned", 1);
        r.goTo(200).due(NONE, "plan", 0).due(NONE, "planned", 0).due(NONE, "planned", 1);
        Run shut = crowdsOfTen(2).due(YES, "shut", 0, 0, 200).due(3, "plan", 0).due(3, "plan", 1);
        shut.due(200, "planned", 0).due(2 * 10 * 197, "planned", 1);
        Run almost = crowdsOfTen(1).due(YES, "shut", 0, 0, 198).due(199, "planned", 0).due(3, "plan", 0);
        almost.due(YES, "shut", 0, 0, 199).due(200, "planned", 0).due(3, "plan", 0).due(10 * 196, "planned", 1);
    }

    /** More cars than one hour lets go: were hours behind 199 tried, nobody would wait by them. */
    private static void planTriesHoursOnly() {
        Run.about("terms, PLAN: HOURS end with 199");
        Run r = oneCrowd(10, 1, 45).due(YES, "hold", 0, 199).goTo(194).due(194, "plan", 0).due(199, "planned", 0);
        r.goTo(195).due(198, "plan", 0).due(200, "planned", 0).due(35 + 25, "planned", 1);
        r.goTo(196).due(199, "plan", 0).due(35, "planned", 1).goTo(198).due(199, "plan", 0).due(35, "planned", 1);
        r.goTo(199).due(199, "plan", 0).due(200, "planned", 0).due(35, "planned", 1);
        Run two = oneCrowd(10, 1, 20).due(1, "crowd", 0, 20, 1).due(YES, "hold", 0, 199).due(YES, "hold", 1, 199);
        two.goTo(197).due(197, "plan", 0).due(199, "plan", 1).goTo(198).due(198, "plan", 0).due(199, "plan", 1);
        two.due(200, "planned", 0).due(10 + 20, "planned", 1);
    }

    private static void planHoldsNone() {
        Run.about("promise 17: a PLAN changes nothing");
        Run r = crowdsOfTen(2).due(YES, "hold", 1, 7).due(1, "plan", 1).due(2, "planned", 0).due(0, "told", 0, 3);
        r.due(7, "told", 1, 3).due(8, "foretold", 0);
    }

    private static void plannedOfOtherWhats() {
        Run.about("promise 18: NONE likewise");
        Run r = crowdsOfTen(1);
        refuses(r, NONE, "planned", 0, row(0), -1, 2, LOW, HIGH);
        refuses(r, NONE, "plan", 0, row(0), -1, 1, LOW, HIGH);
        r.due(1, "planned", 0).due(0, "planned", 1).due(0, "plan", 0);
    }

    // ---- counters

    private static void countedCarsCanBe() {
        Run.about("promise 19: 0 .. 5000 CARS, or a GAP");
        Run r = oneRoad(10, 1).due(1, "go", 1);
        refuses(r, NO, "counted", 2, row(0, 0, 0), -2, 5001, LOW, HIGH);
        r.due(0, "came", 0, 0, 0, 0).due(10, "came", 0, 0, 0, 1);
        r.due(YES, "counted", 0, 0, 0).due(0, "came", 0, 0, 0, 0).due(0, "came", 0, 0, 0, 1);
        r.due(YES, "counted", 0, 0, 5000).due(5000, "came", 0, 0, 0, 0).due(5000, "came", 0, 0, 0, 1);
        refuses(r, NO, "counted", 2, row(0, 0, 0), -2, 5001, LOW, HIGH);
        r.due(5000, "came", 0, 0, 0, 0).due(5000, "came", 0, 0, 0, 1);
        r.due(YES, "counted", 0, 0, NONE).due(0, "came", 0, 0, 0, 0).due(10, "came", 0, 0, 0, 1);
    }

    private static void countedHoursAreOver() {
        Run.about("promise 19: false if the HOUR isn't over");
        Run r = oneRoad(10, 1).due(NO, "counted", 0, 0, 1).due(NO, "counted", 0, 0, NONE).due(1, "go", 1);
        r.due(YES, "counted", 0, 0, 1);
        refuses(r, NO, "counted", 1, row(0, 0, 1), -1, 1, 199, 200, LOW, HIGH);
        r.goTo(199).due(YES, "counted", 0, 198, 2).due(NO, "counted", 0, 199, 3).goTo(200);
        r.due(YES, "counted", 0, 199, 4).due(NO, "counted", 0, 200, 5).due(NO, "counted", 0, 200, NONE);
        r.due(7, "came", 0, 0, 199, 0).due(1, "came", 0, 0, 0, 1).due(2, "came", 0, 198, 198, 1);
    }

    private static void countedOfNoSuchRoad() {
        Run.about("promise 19: false if there is no such ROAD");
        towns(2).due(1, "go", 1).due(NO, "counted", 0, 0, 1).due(NO, "counted", -1, 0, 1);
        oneRoad(1, 1).due(1, "go", 1).due(NO, "counted", 1, 0, 1).due(NO, "counted", -1, 0, 1).due(NO, "counted", HIGH, 0, 1);
    }

    private static void cameBothHoursCount() {
        Run.about("terms, COUNTERS: from an HOUR to another one, both counted");
        Run r = oneRoad(10, 1).due(4, "go", 4);
        for (int h = 0; h < 4; h++) {
            r.due(YES, "counted", 0, h, 1 << h);
        }
        for (int from = 0; from < 4; from++) {
            for (int to = 0; to < 4; to++) {
                int due = from > to ? NONE : (2 << to) - (1 << from);
                r.due(due, "came", 0, from, to, 0).due(due, "came", 0, from, to, 1);
            }
        }
    }

    private static void cameHoursAreOver() {
        Run.about("promise 20: NONE if from is above to, or to isn't over");
        Run r = oneRoad(10, 1).due(NONE, "came", 0, 0, 0, 0).due(1, "go", 1).due(0, "came", 0, 0, 0, 0);
        for (int what = 0; what <= 1; what++) {
            refuses(r, NONE, "came", 1, row(0, 0, 0, what), -1, 1, 200, LOW, HIGH);
            refuses(r, NONE, "came", 2, row(0, 0, 0, what), -1, 1, 200, LOW, HIGH);
            r.due(NONE, "came", 0, 1, 1, what).due(NONE, "came", 0, LOW, HIGH, what).due(NONE, "came", 0, HIGH, LOW, what);
        }
        r.goTo(199).due(1990, "came", 0, 0, 198, 1).due(NONE, "came", 0, 0, 199, 1).due(NONE, "came", 0, 199, 199, 1);
        r.goTo(200).due(2000, "came", 0, 0, 199, 1).due(10, "came", 0, 199, 199, 1).due(NONE, "came", 0, 0, 200, 1);
        r.due(NONE, "came", 0, 200, 200, 1).due(NONE, "came", 0, 199, 198, 1).due(NONE, "came", 0, -1, 199, 1);
    }

    private static void cameOfOtherWhats() {
        Run.about("promise 20: at least (what 0), at most (1)");
        Run r = oneRoad(10, 1).due(1, "go", 1);
        refuses(r, NONE, "came", 3, row(0, 0, 0, 0), -1, 2, LOW, HIGH);
        r.due(0, "came", 0, 0, 0, 0).due(10, "came", 0, 0, 0, 1);
    }

    private static void cameOfGapsWhileShut() {
        Run.about("terms, COUNTERS: for each GAP what the ROAD lets go (0, if it was SHUT)");
        Run r = oneRoad(10, 1).due(YES, "shut", 0, 1, 3).due(4, "go", 4);
        int[] lets = {10, 0, 0, 10};
        for (int h = 0; h < 4; h++) {
            r.due(lets[h], "came", 0, h, h, 1).due(0, "came", 0, h, h, 0);
        }
        r.due(20, "came", 0, 0, 3, 1).due(YES, "counted", 0, 1, 7).due(27, "came", 0, 0, 3, 1).due(7, "came", 0, 0, 3, 0);
        r.due(YES, "shut", 0, 4, 5).due(27, "came", 0, 0, 3, 1).due(5, "go", 1).due(27, "came", 0, 0, 4, 1);
    }

    private static void cameTheMost() {
        Run.about("promise 20: 200 HOURS of 5000 CARS");
        Run r = oneRoad(5000, 1).goTo(200).due(0, "came", 0, 0, 199, 0).due(1000000, "came", 0, 0, 199, 1);
        for (int h = 0; h < 200; h++) {
            r.due(YES, "counted", 0, h, 5000);
        }
        r.due(1000000, "came", 0, 0, 199, 0).due(1000000, "came", 0, 0, 199, 1);
        for (int h = 0; h < 200; h++) {
            r.due(YES, "counted", 0, h, 0);
        }
        r.due(0, "came", 0, 0, 199, 0).due(0, "came", 0, 0, 199, 1);
    }

    private static void outOfHoursThatAreOver() {
        Run.about("promise 21: an HOUR that is over; NONE if there is none such");
        Run r = oneCrowd(3, 1, 7).due(NONE, "out", 0, 0).due(1, "go", 1).due(3, "out", 0, 0);
        refuses(r, NONE, "out", 1, row(0, 0), -1, 1, 199, 200, LOW, HIGH);
        refuses(r, NONE, "out", 0, row(0, 0), -1, 1, LOW, HIGH);
        r.due(4, "go", 3).due(3, "out", 0, 1).due(1, "out", 0, 2).due(0, "out", 0, 3).due(NONE, "out", 0, 4);
        r.goTo(199).due(0, "out", 0, 198).due(NONE, "out", 0, 199).goTo(200).due(0, "out", 0, 199);
        r.due(NONE, "out", 0, 200).due(3, "out", 0, 0);
    }

    // ---- what is told

    private static void toldOfOtherWhats() {
        Run.about("promise 22: NONE for others, or if there is none such");
        Run r = oneCrowd(3, 1, 7);
        refuses(r, NONE, "told", 1, row(0, 0), -1, 6, LOW, HIGH);
        refuses(r, NONE, "told", 0, row(0, 1), -1, 1, 8, LOW, HIGH);
        r.due(0, "told", 0, 0).due(7, "told", 0, 1).due(1, "told", 0, 2).due(0, "told", 0, 3).due(0, "told", 0, 4);
        r.due(NONE, "told", 0, 5);
    }

    private static void toldWhenAllAreHome() {
        Run.about("promise 22: the HOUR in which its last one came, as long as not all did NONE");
        Run r = oneCrowd(3, 1, 7).due(3, "go", 3).due(6, "told", 0, 4).due(NONE, "told", 0, 5).due(4, "go", 1);
        r.due(7, "told", 0, 4).due(3, "told", 0, 5).due(0, "told", 0, 0).goTo(200).due(3, "told", 0, 5);
        Run last = oneCrowd(1, 1, 199).goTo(199).due(198, "told", 0, 4).due(NONE, "told", 0, 5).goTo(200);
        last.due(199, "told", 0, 4).due(199, "told", 0, 5);
        Run late = oneCrowd(1, 1, 200).goTo(200).due(199, "told", 0, 4).due(NONE, "told", 0, 5);
        late.due(1, "on", 0);
    }

    private static void atOfOtherWhats() {
        Run.about("promise 23: NONE for others, or if there is none such");
        Run r = oneCrowd(3, 1, 7);
        refuses(r, NONE, "at", 1, row(0, 0), -1, 3, LOW, HIGH);
        refuses(r, NONE, "at", 0, row(0, 0), -1, 2, 10, LOW, HIGH);
        r.due(1000000, "at", 0, 0).due(7, "at", 0, 1).due(0, "at", 0, 2);
    }

    private static void countOfOtherWhats() {
        Run.about("promise 24: NONE for others");
        Run r = oneCrowd(3, 1, 7).due(2, "go", 2);
        refuses(r, NONE, "count", 0, row(0), -1, 7, LOW, HIGH);
        int[] due = {2, 2, 1, 1, 3, 1, 5};
        for (int what = 0; what <= 6; what++) {
            r.due(due[what], "count", what);
        }
    }

    private static void lastOf512Calls() {
        Run.about("the 512th call of an object");
        Run r = crowdsOfTen(4);
        while (r.callsMade() < Run.MOST_CALLS - 5) {
            r.due(YES, "hold", 0, r.callsMade() % 50).due(YES, "shut", 0, 0, 1);
        }
        r.due(YES, "hold", 0, 0).due(5, "planned", 0).due(5, "foretold", 0).due(5, "go", 5);
        while (r.callsMade() < Run.MOST_CALLS) {
            r.due(30, "count", 4);
        }
    }

    private static void townsAndRoads() {
        newObjectHasNothing();
        hoursGoOverNothing();
        farCanBe();
        waterCanBe();
        tenTownsCome();
        noEleventhTown();
        townsComeInAnyHour();
        halfWidthCanBe();
        halfWidthIsToldInAnyHour();
        noSecondsAtTheRim();
        secondsAreGreatestWholeRoots();
        cloudsCanBe();
        cloudsWeighFrom0To100();
        refusedCloudsStayAway();
        roadTownsAreTwo();
        roadIsOneWay();
        roadCarsCanBe();
        roadHoursCanBe();
        sixteenRoadsCome();
        noSeventeenthRoad();
        roadsComeInHour0();
        leastToItself();
        leastWithoutAWay();
        leastOverAllTowns();
        leastOfSeveralWays();
        wayGoesByTheLeastNumber();
    }

    private static void crowdsAndHours() {
        crowdCarsCanBe();
        crowdHomeIsAnotherTown();
        eightCrowdsCome();
        noNinthCrowd();
        crowdsComeInHour0();
        dawnHoursCanBe();
        dawnOnlyInHour0();
        dawnGoesAsFarAsTold();
        dawnOfNoneOneAndEight();
        dawnOnlyToMore();
        dawnNotToHome();
        dawnNotToADeadEnd();
        dawnNotToWhereNoRoadGoes();
        dawnOfLikeGoals();
        holdHoursCanBe();
        holdBeforeItIsLetGo();
        holdOfNoSuchCrowd();
        shutFromNowOn();
        shutToIsAboveFrom();
        shutSpanEnds();
        shutInTheLastHour();
        shutForEver();
        oneSpanOfARoad();
        goHoursCanBe();
        goUpTo200();
        asManySetOutAsCan();
        theMostOnARoad();
        theMostInAQueue();
        carsComeByRoadsInTheirOrder();
        carsAreNeverLost();
        longestQueueIsForeseen();
    }

    private static void forecastsAndCounters() {
        foretoldOfOtherWhats();
        foretoldUpToHour199();
        foretoldInTheLastHours();
        foretoldOfNoneAndOne();
        lacksUpToHour199();
        lacksOnlyWhereCarsAre();
        waterIsTakenToTheLast();
        planOfNoneToFive();
        planOfThoseNotLetGo();
        planUpToThreeHoursLater();
        planOfLikeWays();
        planNotTill199();
        planTriesHoursOnly();
        planHoldsNone();
        plannedOfOtherWhats();
        countedCarsCanBe();
        countedHoursAreOver();
        countedOfNoSuchRoad();
        cameBothHoursCount();
        cameHoursAreOver();
        cameOfOtherWhats();
        cameOfGapsWhileShut();
        cameTheMost();
        outOfHoursThatAreOver();
        toldOfOtherWhats();
        toldWhenAllAreHome();
        atOfOtherWhats();
        countOfOtherWhats();
        lastOf512Calls();
    }

    public static void main(String[] args) {
        townsAndRoads();
        crowdsAndHours();
        forecastsAndCounters();
        Run.end("all bounds hold");
    }
}
