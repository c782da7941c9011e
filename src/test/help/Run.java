/** One object of ShadowRoads whose calls are told by name: each is counted, and a wrong answer is printed. */
final class Run {
    static final int NONE = ShadowRoads.NONE;
    static final int YES = 1;
    static final int NO = 0;
    static final int LOW = Integer.MIN_VALUE;
    static final int HIGH = Integer.MAX_VALUE;
    static final int MOST_CALLS = 512;

    private static String part = "";
    private static int wrong = 0;

    private final ShadowRoads x = new ShadowRoads();
    private int calls = 0;

    /** The sentence of the document that the next tests are for. */
    static void about(String sentence) {
        part = sentence;
    }

    static void fault(String what) {
        wrong++;
        System.out.println(part + ": " + what);
    }

    static void end(String whenAllIsRight) {
        System.out.println(wrong == 0 ? whenAllIsRight : wrong + " answers are not as due");
        if (wrong != 0) {
            System.exit(1);
        }
    }

    static String text(String name, int... a) {
        StringBuilder b = new StringBuilder(name).append('(');
        for (int i = 0; i < a.length; i++) {
            b.append(i == 0 ? "" : ", ").append(a[i]);
        }
        return b.append(')').toString();
    }

    Run due(int want, String name, int... a) {
        int got = call(name, a);
        if (got != want) {
            fault(text(name, a) + " answered " + got + ", due is " + want);
        }
        return this;
    }

    /** Hours go until NOW is the one told. */
    Run goTo(int hour) {
        int now = call("count", 0);
        while (now < hour) {
            now = call("go", Math.min(50, hour - now));
        }
        return due(hour, "count", 0);
    }

    int callsMade() {
        return calls;
    }

    /** A call's answer; true is 1 and false is 0. */
    int call(String name, int... a) {
        calls++;
        if (calls > MOST_CALLS) {
            fault("the test makes more than " + MOST_CALLS + " calls of one object");
        }
        switch (a.length) {
            case 1:
                return callOfOne(name, a[0]);
            case 2:
                return callOfTwo(name, a[0], a[1]);
            default:
                return callOfMore(name, a);
        }
    }

    private int callOfOne(String name, int a) {
        switch (name) {
            case "path":
                return x.path(a) ? YES : NO;
            case "seconds":
                return x.seconds(a);
            case "dawn":
                return x.dawn(a);
            case "go":
                return x.go(a);
            case "queue":
                return x.queue(a);
            case "on":
                return x.on(a);
            case "foretold":
                return x.foretold(a);
            case "lacks":
                return x.lacks(a);
            case "plan":
                return x.plan(a);
            case "planned":
                return x.planned(a);
            case "count":
                return x.count(a);
            default:
                throw new IllegalArgumentException(name);
        }
    }

    private int callOfTwo(String name, int a, int b) {
        switch (name) {
            case "town":
                return x.town(a, b);
            case "clouds":
                return x.clouds(a, b) ? YES : NO;
            case "least":
                return x.least(a, b);
            case "hold":
                return x.hold(a, b) ? YES : NO;
            case "out":
                return x.out(a, b);
            case "told":
                return x.told(a, b);
            case "at":
                return x.at(a, b);
            default:
                throw new IllegalArgumentException(name);
        }
    }

    private int callOfMore(String name, int[] a) {
        switch (name) {
            case "road":
                return x.road(a[0], a[1], a[2], a[3]);
            case "crowd":
                return x.crowd(a[0], a[1], a[2]);
            case "shut":
                return x.shut(a[0], a[1], a[2]) ? YES : NO;
            case "counted":
                return x.counted(a[0], a[1], a[2]) ? YES : NO;
            case "came":
                return x.came(a[0], a[1], a[2], a[3]);
            default:
                throw new IllegalArgumentException(name);
        }
    }
}
