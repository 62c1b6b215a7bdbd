/** The bounds of EVENTS in Terms 2 and of promise 9, each in a method of its own. */
public final class EventBoundsTest {
    private static final Check CHECK = new Check();
    private static final int LEAST = Integer.MIN_VALUE;
    private static final int GREATEST = Integer.MAX_VALUE;

    public static void main(String[] args) {
        eventsAtMostFourHundred();
        fourHundredOfAllRaces();
        noSuchRace();
        noSuchRacerInIt();
        noSuchSort();
        lapsOfTheFormat();
        shootingsOfTheFormat();
        strikesHaveNoK();
        endsUpToTwoHundredThousand();
        targetsUpToThirtyOne();
        loopsUpToNine();
        struckOrNot();
        noneTakesAway();
        noneOfWhatWasNeverTold();
        knownFromTodayOn();
        knownOnTheLastDay();
        theLatestOfADayCounts();
        theLatestOfASortAndKCounts();
        fiveHundredAndTwelveCalls();
        CHECK.end();
    }

    private static void eventsAtMostFourHundred() {
        SkiShots x = Worlds.events(0);
        for (int i = 1; i <= 400; i++) {
            CHECK.due("event " + i, x.tell(0, 0, 0, 1 + i % 2, i), i);
        }
        CHECK.due("one more", x.tell(0, 0, 0, 1, 7), -1);
        CHECK.due("399 and one more", Worlds.events(399).tell(0, 0, 0, 1, 7), 400);
        CHECK.leavesAll("400 and one more", () -> Worlds.events(400), -1, y -> y.tell(0, 0, 0, 1, 7));
        CHECK.leavesAll("400 and one taken away", () -> Worlds.events(400), -1, y -> y.tell(0, 0, 0, 1, -1));
        CHECK.leavesAll("400 and one struck", () -> Worlds.events(400), -1, y -> y.tell(0, 0, 3, 0, 1));
    }

    private static void fourHundredOfAllRaces() {
        CHECK.leavesAll("400 and one of another race", () -> Worlds.events(400), -1, y -> y.tell(1, 0, 0, 1, 7));
        SkiShots x = Worlds.events(399);
        CHECK.due("the last, of another race", x.tell(1, 0, 0, 1, 7), 400);
        CHECK.dueLook(x, 0, 6, "399");
        CHECK.dueLook(x, 1, 6, "1");
        CHECK.due("count(4)", x.count(4), 400);
        CHECK.due("one more", x.tell(1, 0, 0, 1, 7), -1);
        x = Worlds.events(400);
        CHECK.due("a race without events may still be entered", x.enter(1, 1), 2);
    }

    private static void refused(int race, int racer, int sort, int k, int v) {
        String call = "tell(" + race + ", " + racer + ", " + sort + ", " + k + ", " + v + ")";
        CHECK.leavesAll(call, Worlds::usual, -1, x -> x.tell(race, racer, sort, k, v));
    }

    /** The seventh event of the usual world. */
    private static void fine(int race, int racer, int sort, int k, int v) {
        SkiShots x = Worlds.usual();
        String call = "tell(" + race + ", " + racer + ", " + sort + ", " + k + ", " + v + ")";
        int told = x.look(race, 6);
        CHECK.due(call, x.tell(race, racer, sort, k, v), 7);
        CHECK.due(call + " count(4)", x.count(4), 7);
        CHECK.due(call + " look", x.look(race, 6), told + 1);
    }

    private static void noSuchRace() {
        for (int race : new int[] {-1, 3, 8, LEAST, GREATEST}) {
            refused(race, 0, 0, 1, 5);
            refused(race, 0, 3, 0, 1);
        }
        fine(0, 0, 0, 1, 5);
        fine(1, 0, 0, 1, 5);
        fine(2, 3, 0, 1, 5);
    }

    private static void noSuchRacerInIt() {
        for (int racer : new int[] {-1, 3, 4, 16, LEAST, GREATEST}) {
            refused(0, racer, 0, 1, 5);
            refused(0, racer, 3, 0, 1);
        }
        refused(1, 2, 0, 1, 5);
        refused(2, 0, 0, 1, 5);
        fine(0, 2, 0, 1, 5);
        fine(1, 1, 0, 1, 5);
    }

    private static void noSuchSort() {
        for (int sort : new int[] {-1, 4, LEAST, GREATEST}) {
            refused(0, 0, sort, 0, 0);
            refused(0, 0, sort, 1, 1);
            refused(0, 0, sort, 0, -1);
        }
        for (int sort = 0; sort <= 3; sort++) {
            fine(0, 0, sort, sort == 0 ? 1 : 0, 1);
        }
    }

    private static void lapsOfTheFormat() {
        int[] laps = {3, 2, 4};
        int[] racers = {0, 0, 3};
        for (int race = 0; race < 3; race++) {
            fine(race, racers[race], 0, 1, 5);
            fine(race, racers[race], 0, laps[race], 5);
            for (int k : new int[] {0, -1, laps[race] + 1, LEAST, GREATEST}) {
                refused(race, racers[race], 0, k, 5);
                refused(race, racers[race], 0, k, -1);
            }
        }
    }

    private static void shootingsOfTheFormat() {
        int[] shootings = {2, 1, 3};
        int[] racers = {0, 0, 3};
        for (int race = 0; race < 3; race++) {
            for (int sort = 1; sort <= 2; sort++) {
                fine(race, racers[race], sort, 0, 5);
                fine(race, racers[race], sort, shootings[race] - 1, 5);
                for (int k : new int[] {-1, shootings[race], LEAST, GREATEST}) {
                    refused(race, racers[race], sort, k, 5);
                    refused(race, racers[race], sort, k, -1);
                }
            }
        }
    }

    private static void strikesHaveNoK() {
        fine(0, 0, 3, 0, 1);
        for (int k : new int[] {-1, 1, LEAST, GREATEST}) {
            refused(0, 0, 3, k, 1);
            refused(0, 0, 3, k, 0);
            refused(0, 0, 3, k, -1);
        }
    }

    private static void valuesUpTo(int sort, int k, int most) {
        fine(0, 0, sort, k, -1);
        fine(0, 0, sort, k, 0);
        fine(0, 0, sort, k, most);
        for (int v : new int[] {-2, most + 1, LEAST, GREATEST}) {
            refused(0, 0, sort, k, v);
        }
    }

    private static void endsUpToTwoHundredThousand() {
        valuesUpTo(0, 3, 200000);
        SkiShots x = Worlds.usual();
        x.tell(0, 0, 0, 3, 200000);
        CHECK.due("the greatest end", x.split(0, 0, 3, 2), 200000);
        x.tell(0, 0, 0, 3, 0);
        CHECK.due("the least end", x.split(0, 0, 3, 2), 0);
    }

    private static void targetsUpToThirtyOne() {
        valuesUpTo(1, 1, 31);
        SkiShots x = Worlds.usual();
        for (int bits = 0; bits <= 31; bits++) {
            x.tell(0, 0, 1, 1, bits);
            int hit = (bits & 1) + (bits >> 1 & 1) + (bits >> 2 & 1) + (bits >> 3 & 1) + (bits >> 4);
            // One missed at shooting 0.
            CHECK.due("misses at least with " + bits, x.time(0, 0, 2, 6), 1 + 5 - hit);
            CHECK.due("misses at most with " + bits, x.time(0, 0, 2, 7), 1 + 5 - hit);
        }
    }

    private static void loopsUpToNine() {
        valuesUpTo(2, 1, 9);
    }

    private static void struckOrNot() {
        valuesUpTo(3, 0, 1);
        SkiShots x = Worlds.usual();
        int[] told = {1, 0, 1, -1, 0, -1};
        for (int v : told) {
            x.tell(0, 0, 3, 0, v);
            CHECK.due("struck with " + v, x.time(0, 0, 2, 5), v == 1 ? 1 : 0);
            CHECK.due("low with " + v, x.time(0, 0, 2, 1), v == 1 ? -1 : 5000);
        }
    }

    private static void noneTakesAway() {
        SkiShots x = Worlds.usual();
        x.tell(0, 0, 0, 3, 4000);
        x.tell(0, 0, 0, 3, -1);
        CHECK.due("neither the last told nor the one ahead of it", x.split(0, 0, 3, 2), -1);
        CHECK.due("yesterday as it was", x.split(0, 0, 3, 1), 5000);
        x.tell(0, 0, 1, 0, 31);
        x.tell(0, 0, 1, 0, -1);
        CHECK.due("misses at most", x.time(0, 0, 2, 7), 10);
        CHECK.due("misses at least", x.time(0, 0, 2, 6), 0);
        CHECK.due("yesterday's at least", x.time(0, 0, 1, 6), 1);
        x.tell(0, 0, 0, 3, 4500);
        CHECK.due("told anew", x.split(0, 0, 3, 2), 4500);
        x.tell(0, 0, 2, 0, 9);
        x.tell(0, 0, 2, 1, 9);
        CHECK.due("loops of both", x.time(0, 0, 2, 2), 4500);
        x.tell(0, 0, 2, 1, -1);
        CHECK.due("loops of one taken away", x.time(0, 0, 2, 2), 4500 + 500);
    }

    private static void noneOfWhatWasNeverTold() {
        fine(2, 3, 0, 4, -1);
        fine(2, 3, 1, 2, -1);
        fine(2, 3, 2, 2, -1);
        fine(2, 3, 3, 0, -1);
        SkiShots x = Worlds.usual();
        x.tell(2, 3, 0, 4, -1);
        x.tell(2, 3, 3, 0, -1);
        CHECK.due("no time", x.time(2, 3, 2, 1), -1);
        CHECK.due("not struck", x.time(2, 3, 2, 5), 0);
        CHECK.due("twice", x.tell(2, 3, 0, 4, -1), 9);
    }

    private static void knownFromTodayOn() {
        SkiShots x = Worlds.usual();
        x.pass(1);
        x.tell(1, 0, 0, 1, 800);
        x.tell(0, 1, 3, 0, 1);
        x.pass(1);
        int[] splits = {-1, -1, -1, 800, 800, -2};
        int[] struck = {0, 0, 0, 1, 1, -2};
        for (int day = 0; day < splits.length; day++) {
            CHECK.due("split on day " + day, x.split(1, 0, 1, day), splits[day]);
            CHECK.due("struck on day " + day, x.time(0, 1, day, 5), struck[day]);
        }
        CHECK.due("split on day -1", x.split(1, 0, 1, -1), -2);
    }

    private static void knownOnTheLastDay() {
        SkiShots x = Worlds.usual();
        x.pass(197);
        x.tell(0, 0, 0, 3, 4999);
        x.pass(1);
        x.tell(0, 0, 0, 3, 4998);
        CHECK.due("no day more", x.pass(1), -1);
        CHECK.due("on day 198", x.split(0, 0, 3, 198), 5000);
        CHECK.due("on day 199", x.split(0, 0, 3, 199), 4999);
        CHECK.due("on day 200", x.split(0, 0, 3, 200), 4998);
        CHECK.due("on day 201", x.split(0, 0, 3, 201), -2);
        CHECK.due("time on day 200", x.time(0, 0, 200, 1), 4998);
        CHECK.due("time on day 201", x.time(0, 0, 201, 1), -2);
    }

    private static void theLatestOfADayCounts() {
        SkiShots x = Worlds.usual();
        int[] ends = {300, 200, 100, 250};
        for (int end : ends) {
            x.tell(0, 1, 0, 1, end);
            CHECK.due("end " + end, x.split(0, 1, 1, 2), end);
        }
        CHECK.due("not the day before", x.split(0, 1, 1, 1), -1);
    }

    private static void theLatestOfASortAndKCounts() {
        SkiShots x = Worlds.usual();
        x.tell(0, 1, 0, 1, 100);
        x.tell(0, 1, 0, 2, 31);
        x.tell(0, 1, 1, 1, 31);
        x.tell(0, 1, 2, 1, 9);
        x.tell(0, 0, 0, 1, 77);
        x.tell(0, 2, 0, 1, -1);
        x.tell(1, 1, 0, 1, 900);
        CHECK.due("lap 1", x.split(0, 1, 1, 2), 100);
        CHECK.due("lap 2", x.split(0, 1, 2, 2), 31);
        CHECK.due("lap 3", x.split(0, 1, 3, 2), 5123);
        CHECK.due("misses at most", x.time(0, 1, 2, 7), 5);
        CHECK.due("not of another racer", x.split(0, 0, 1, 2), 77);
    }

    /** What is promised of an object ends with its 512th call, and not ahead of it. */
    private static void fiveHundredAndTwelveCalls() {
        SkiShots x = Worlds.events(400);
        // Made by 3 feeds, formats, 2 racers, 2 races, 2 entries and 400 events.
        for (int i = 410; i < 510; i++) {
            CHECK.due("call " + (i + 1), x.split(0, 0, 1 + i % 2, 0), i % 2 == 0 ? 400 : 399);
        }
        CHECK.due("call 511", x.pass(200), 200);
        CHECK.due("call 512", x.time(0, 0, 200, 1), 399);
    }
}
