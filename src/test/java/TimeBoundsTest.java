/** The bounds that Terms 3 and promises 12 to 14 name, each in a method of its own. */
public final class TimeBoundsTest {
    private static final Check CHECK = new Check();
    private static final int LEAST = Integer.MIN_VALUE;
    private static final int GREATEST = Integer.MAX_VALUE;

    public static void main(String[] args) {
        massStartsAtZero();
        everyStartsByHowManyEntered();
        chaseStartsAreCutToSeconds();
        chaseStartsAreAtMostN();
        chaseStartsByTheLeastLow();
        chaseWithoutATimeThere();
        chaseOfTheStruck();
        chaseOfNobody();
        chaseByLowAlone();
        noTimeOfTheStruck();
        noTimeWithoutAStart();
        noTimeWithoutTheLastEnd();
        noTimeAheadOfStart();
        missesOfTargetsNotTold();
        addedSeconds();
        lackingLoops();
        loopsNotTold();
        missesNotTold();
        eachShootingAlone();
        theWidestSpan();
        firstByHighBelowLow();
        lastByLowBelowHigh();
        placesOfThoseWithATimeAlone();
        splitNotTold();
        splitAheadOfStart();
        splitWithoutAStart();
        splitOfNoSuchOnes();
        timeOfNoSuchOnes();
        timeWithoutATime();
        orderOfSeveralAlike();
        orderOfNoSuchOnes();
        CHECK.end();
    }

    /** One race of this format that racers 0 to count - 1 enter, everything told on day 0. */
    private static SkiShots one(int count, int laps, String shoot, String miss, String start) {
        SkiShots x = Check.with(count, Check.format('A', laps, shoot, miss, start));
        Check.raceOf(x, 'A', -1, count);
        return x;
    }

    /** Race 0 with these ends, of LOWs alike, and race 1 that chases by it with the same racers. */
    private static SkiShots chase(int n, int... ends) {
        SkiShots x = Check.with(ends.length, Check.format('A', 2, "1", "add 10", "mass"),
                Check.format('B', 2, "1", "loop 10", "chase " + n));
        Check.raceOf(x, 'A', -1, ends.length);
        Check.raceOf(x, 'B', 0, ends.length);
        for (int i = 0; i < ends.length; i++) {
            x.tell(0, i, 0, 2, ends[i]);
        }
        return x;
    }

    private static void dueStarts(String when, SkiShots x, int... starts) {
        for (int i = 0; i < starts.length; i++) {
            CHECK.due(when + ": start of " + i, x.time(1, i, x.count(0), 0), starts[i]);
        }
    }

    private static void dueSpan(String when, SkiShots x, int low, int high) {
        CHECK.due(when + ": low", x.time(0, 0, x.count(0), 1), low);
        CHECK.due(when + ": high", x.time(0, 0, x.count(0), 2), high);
    }

    private static void dueNoTime(String when, SkiShots x, int race, int racer) {
        int today = x.count(0);
        for (int what = 1; what <= 4; what++) {
            CHECK.due(when + ": what " + what, x.time(race, racer, today, what), -1);
        }
        for (int k = 0; k <= x.look(race, 5); k++) {
            CHECK.that(when + ": not in order", x.order(race, today, k) != racer);
        }
    }

    private static void massStartsAtZero() {
        SkiShots x = one(16, 2, "1", "add 5", "mass");
        CHECK.due("the first", x.time(0, 0, 0, 0), 0);
        CHECK.due("the sixteenth", x.time(0, 15, 0, 0), 0);
    }

    private static void everyStartsByHowManyEntered() {
        SkiShots x = one(16, 2, "1", "add 5", "every 600");
        SkiShots y = one(16, 2, "1", "add 5", "every 1");
        for (int i = 0; i < 16; i++) {
            CHECK.due("every 600, " + i, x.time(0, i, 0, 0), 6000 * i);
            CHECK.due("every 1, " + i, y.time(0, i, 0, 0), 10 * i);
        }
    }

    private static void chaseStartsAreCutToSeconds() {
        dueStarts("cut", chase(3600, 1003, 1003, 1012, 1013, 1022, 1023, 1032), 0, 0, 0, 10, 10, 20, 20);
    }

    private static void chaseStartsAreAtMostN() {
        dueStarts("chase 60", chase(60, 1000, 1590, 1599, 1600, 1609, 1610, 200000), 0, 590, 590, 600, 600, 600, 600);
        dueStarts("chase 3600", chase(3600, 0, 35999, 36000, 36009, 36010, 200000), 0, 35990, 36000, 36000, 36000, 36000);
        dueStarts("chase 1", chase(1, 7, 16, 17, 26, 27), 0, 0, 10, 10, 10);
        dueStarts("chase 0", chase(0, 7, 16, 17, 27, 200000), 0, 0, 0, 0, 0);
    }

    private static void chaseStartsByTheLeastLow() {
        SkiShots x = Check.with(3, Check.format('A', 2, "1", "add 10", "mass"),
                Check.format('B', 2, "1", "loop 10", "chase 60"));
        Check.raceOf(x, 'A', -1, 3);
        x.race(1, 0);
        x.enter(1, 2);
        x.enter(1, 1);
        x.tell(0, 0, 0, 2, 1000);
        x.tell(0, 1, 0, 2, 1100);
        x.tell(0, 2, 0, 2, 1150);
        CHECK.due("by one who isn't in the chase", x.time(1, 1, 0, 0), 100);
        CHECK.due("not by who entered ahead", x.time(1, 2, 0, 0), 150);
        x.tell(0, 0, 0, 2, 1200);
        CHECK.due("now the first", x.time(1, 1, 0, 0), 0);
        CHECK.due("behind it", x.time(1, 2, 0, 0), 50);
    }

    private static void chaseWithoutATimeThere() {
        SkiShots x = chase(60, 1000, 1100, 1200);
        x.racer(0);
        x.enter(1, 3);
        CHECK.due("not in the race there", x.time(1, 3, 0, 0), -1);
        x.tell(0, 1, 0, 2, -1);
        dueStarts("the end taken away", x, 0, -1, 200, -1);
        x.tell(0, 0, 0, 2, -1);
        dueStarts("two ends taken away", x, -1, -1, 0, -1);
        x.tell(0, 1, 0, 1, 1000);
        dueStarts("another lap's end alone", x, -1, -1, 0, -1);
    }

    private static void chaseOfTheStruck() {
        SkiShots x = chase(60, 1000, 1100, 1200);
        x.pass(1);
        x.tell(0, 0, 3, 0, 1);
        dueStarts("the first struck", x, -1, 0, 100);
        CHECK.due("the day before", x.time(1, 1, 0, 0), 100);
        CHECK.due("who is struck, the day before", x.time(1, 0, 0, 0), 0);
        x.pass(1);
        x.tell(0, 0, 3, 0, 0);
        dueStarts("no more struck", x, 0, 100, 200);
        x.tell(0, 0, 3, 0, 1);
        x.tell(0, 0, 3, 0, -1);
        dueStarts("the strike taken away", x, 0, 100, 200);
        x.tell(1, 1, 3, 0, 1);
        dueStarts("struck in the chase", x, 0, 100, 200);
    }

    private static void chaseOfNobody() {
        SkiShots x = chase(60, 1000, 1100);
        x.tell(0, 0, 3, 0, 1);
        x.tell(0, 1, 3, 0, 1);
        dueStarts("all struck", x, -1, -1);
        x.tell(1, 0, 0, 2, 5000);
        dueNoTime("all struck", x, 1, 0);
        CHECK.due("nobody in order", x.order(1, 0, 0), -1);
        SkiShots empty = Check.with(1, Check.format('A', 2, "1", "add 10", "mass"),
                Check.format('B', 2, "1", "loop 10", "chase 60"));
        empty.race(0, -1);
        Check.raceOf(empty, 'B', 0, 1);
        CHECK.due("by a race that nobody entered", empty.time(1, 0, 0, 0), -1);
    }

    /** Targets not told leave a LOW without penalties; HIGH does not matter for starts. */
    private static void chaseByLowAlone() {
        SkiShots x = chase(3600, 1000, 1100);
        x.tell(0, 0, 1, 0, 30);
        dueStarts("one missed", x, 0, 0);
        x.tell(0, 1, 1, 0, 0);
        dueStarts("five missed", x, 0, 500);
        x.tell(0, 1, 1, 0, -1);
        dueStarts("not told", x, 0, 0);
    }

    private static void noTimeOfTheStruck() {
        SkiShots x = one(2, 2, "1", "add 5", "mass");
        x.tell(0, 0, 0, 2, 1000);
        x.tell(0, 0, 1, 0, 15);
        x.tell(0, 0, 3, 0, 1);
        dueNoTime("struck", x, 0, 0);
        CHECK.due("its start", x.time(0, 0, 0, 0), 0);
        CHECK.due("struck", x.time(0, 0, 0, 5), 1);
        CHECK.due("its misses at least", x.time(0, 0, 0, 6), 1);
        CHECK.due("its misses at most", x.time(0, 0, 0, 7), 1);
        CHECK.due("its split", x.split(0, 0, 2, 0), 1000);
        x.tell(0, 0, 3, 0, 0);
        dueSpan("not struck", x, 1050, 1050);
    }

    private static void noTimeWithoutAStart() {
        SkiShots x = chase(60, 1000, 1100);
        x.tell(0, 1, 0, 2, -1);
        x.tell(1, 1, 0, 2, 5000);
        dueNoTime("no start", x, 1, 1);
        x.tell(0, 1, 0, 2, 1100);
        CHECK.due("with a start", x.time(1, 1, 0, 1), 4900);
    }

    private static void noTimeWithoutTheLastEnd() {
        SkiShots x = one(2, 3, "1", "add 5", "mass");
        dueNoTime("nothing told", x, 0, 0);
        x.tell(0, 0, 0, 1, 1000);
        x.tell(0, 0, 0, 2, 2000);
        dueNoTime("the other ends told", x, 0, 0);
        x.tell(0, 1, 0, 3, 3000);
        dueNoTime("another's end told", x, 0, 0);
        x.tell(0, 0, 0, 3, 0);
        dueSpan("the last end alone counts", x, 0, 250);
        x.tell(0, 0, 0, 3, -1);
        dueNoTime("taken away", x, 0, 0);
    }

    private static void noTimeAheadOfStart() {
        SkiShots x = one(3, 2, "1", "add 0", "every 30");
        x.tell(0, 2, 0, 2, 599);
        dueNoTime("a tenth ahead of start", x, 0, 2);
        x.tell(0, 2, 0, 2, 0);
        dueNoTime("at 0", x, 0, 2);
        x.tell(0, 2, 0, 2, 600);
        CHECK.due("at start: low", x.time(0, 2, 0, 1), 0);
        CHECK.due("at start: high", x.time(0, 2, 0, 2), 0);
        x.tell(0, 2, 0, 2, 601);
        CHECK.due("a tenth behind start", x.time(0, 2, 0, 1), 1);
        SkiShots y = chase(60, 1000, 1100);
        y.tell(1, 1, 0, 2, 99);
        dueNoTime("a chase, a tenth ahead", y, 1, 1);
        y.tell(1, 1, 0, 2, 100);
        CHECK.due("a chase, at start", y.time(1, 1, 0, 1), 0);
        // The start moves with what is known of the other race.
        y.tell(0, 1, 0, 2, 1110);
        dueNoTime("a chase, its start behind its end", y, 1, 1);
    }

    private static void missesOfTargetsNotTold() {
        SkiShots x = one(1, 5, "1 2 3 4", "add 5", "mass");
        int[] least = {0, 5, 9, 9, 10};
        int[] most = {20, 20, 19, 14, 10};
        int[] hits = {0, 1, 31, 30};
        for (int k = 0; k <= 4; k++) {
            CHECK.due(k + " told: at least", x.time(0, 0, 0, 6), least[k]);
            CHECK.due(k + " told: at most", x.time(0, 0, 0, 7), most[k]);
            if (k < 4) {
                x.tell(0, 0, 1, k, hits[k]);
            }
        }
    }

    private static void addedSeconds() {
        for (int seconds : new int[] {0, 1, 600}) {
            SkiShots x = one(1, 2, "1", "add " + seconds, "mass");
            x.tell(0, 0, 0, 2, 1000);
            dueSpan("add " + seconds, x, 1000, 1000 + 50 * seconds);
            int[] hits = {31, 15, 7, 3, 1, 0};
            for (int misses = 0; misses <= 5; misses++) {
                x.tell(0, 0, 1, 0, hits[misses]);
                int time = 1000 + 10 * seconds * misses;
                dueSpan("add " + seconds + ", misses " + misses, x, time, time);
                x.tell(0, 0, 2, 0, 9);
                dueSpan("add " + seconds + ", loops are nothing", x, time, time);
                x.tell(0, 0, 2, 0, -1);
            }
        }
    }

    private static void lackingLoops() {
        SkiShots x = one(1, 2, "1", "loop 600", "mass");
        x.tell(0, 0, 0, 2, 1000);
        int[] hits = {31, 30, 28, 24, 16, 0};
        for (int misses = 0; misses <= 5; misses++) {
            x.tell(0, 0, 1, 0, hits[misses]);
            for (int run = 0; run <= 9; run++) {
                x.tell(0, 0, 2, 0, run);
                int lacking = run >= misses ? 0 : misses - run;
                dueSpan(misses + " missed, " + run + " run", x, 1000 + 6000 * lacking, 1000 + 6000 * lacking);
            }
        }
        SkiShots free = one(1, 2, "1", "loop 0", "mass");
        free.tell(0, 0, 0, 2, 1000);
        dueSpan("loop 0", free, 1000, 1000);
    }

    private static void loopsNotTold() {
        SkiShots x = one(1, 2, "1", "loop 20", "mass");
        x.tell(0, 0, 0, 2, 1000);
        int[] hits = {31, 30, 28, 24, 16, 0};
        for (int misses = 0; misses <= 5; misses++) {
            x.tell(0, 0, 1, 0, hits[misses]);
            dueSpan(misses + " missed, loops not told", x, 1000, 1000 + 200 * misses);
        }
    }

    private static void missesNotTold() {
        SkiShots x = one(1, 2, "1", "loop 20", "mass");
        x.tell(0, 0, 0, 2, 1000);
        dueSpan("nothing told", x, 1000, 2000);
        int[] high = {2000, 1800, 1600, 1400, 1200, 1000, 1000, 1000, 1000, 1000};
        for (int run = 0; run <= 9; run++) {
            x.tell(0, 0, 2, 0, run);
            dueSpan(run + " run, misses not told", x, 1000, high[run]);
        }
    }

    /** Loops run behind one shooting pay for none of another. */
    private static void eachShootingAlone() {
        SkiShots x = one(1, 3, "1 2", "loop 20", "mass");
        x.tell(0, 0, 0, 3, 1000);
        x.tell(0, 0, 1, 0, 31);
        x.tell(0, 0, 2, 0, 9);
        x.tell(0, 0, 1, 1, 0);
        x.tell(0, 0, 2, 1, 0);
        dueSpan("nine loops of none missed, none of five", x, 2000, 2000);
        x.tell(0, 0, 2, 1, -1);
        dueSpan("loops of the second not told", x, 1000, 2000);
        x.tell(0, 0, 1, 0, -1);
        x.tell(0, 0, 2, 0, 0);
        dueSpan("misses of the first not told", x, 1000, 3000);
    }

    private static void theWidestSpan() {
        for (String miss : new String[] {"add 600", "loop 600"}) {
            SkiShots x = one(1, 6, "1 2 4 5", miss, "mass");
            x.tell(0, 0, 0, 6, 200000);
            dueSpan(miss, x, 200000, 200000 + 4 * 5 * 6000);
        }
    }

    private static void dueFirst(SkiShots x, int... places) {
        for (int i = 0; i < places.length; i++) {
            CHECK.due("first of " + i, x.time(0, i, 0, 3), places[i]);
        }
    }

    private static void dueLast(SkiShots x, int... places) {
        for (int i = 0; i < places.length; i++) {
            CHECK.due("last of " + i, x.time(0, i, 0, 4), places[i]);
        }
    }

    /** Racer 0 needs 1000 to 1500, racer 1 exactly its end. */
    private static SkiShots twoSpans(int end) {
        SkiShots x = one(2, 2, "1", "add 10", "mass");
        x.tell(0, 0, 0, 2, 1000);
        x.tell(0, 1, 0, 2, end);
        x.tell(0, 1, 1, 0, 31);
        return x;
    }

    private static void firstByHighBelowLow() {
        dueFirst(twoSpans(999), 2, 1);
        dueFirst(twoSpans(1000), 1, 1);
        dueFirst(twoSpans(1001), 1, 1);
        dueFirst(twoSpans(1499), 1, 1);
        dueFirst(twoSpans(1500), 1, 1);
        dueFirst(twoSpans(1501), 1, 2);
    }

    private static void lastByLowBelowHigh() {
        dueLast(twoSpans(999), 2, 1);
        dueLast(twoSpans(1000), 2, 1);
        dueLast(twoSpans(1001), 2, 2);
        dueLast(twoSpans(1499), 2, 2);
        dueLast(twoSpans(1500), 1, 2);
        dueLast(twoSpans(1501), 1, 2);
    }

    private static void placesOfThoseWithATimeAlone() {
        SkiShots x = one(16, 2, "1", "add 0", "mass");
        for (int i = 0; i < 16; i++) {
            x.tell(0, i, 0, 2, 1000 + i);
        }
        CHECK.due("first of the sixteenth", x.time(0, 15, 0, 3), 16);
        CHECK.due("last of the sixteenth", x.time(0, 15, 0, 4), 16);
        CHECK.due("last of the first", x.time(0, 0, 0, 4), 1);
        x.tell(0, 0, 3, 0, 1);
        x.tell(0, 1, 0, 2, -1);
        CHECK.due("two less: first", x.time(0, 15, 0, 3), 14);
        CHECK.due("two less: last", x.time(0, 15, 0, 4), 14);
        SkiShots alone = one(2, 2, "1", "add 10", "mass");
        alone.tell(0, 0, 0, 2, 1000);
        dueFirst(alone, 1, -1);
        // An entry's own LOW is below its own HIGH, but it is none of the others.
        dueLast(alone, 1, -1);
    }

    private static void splitNotTold() {
        SkiShots x = one(2, 3, "1", "add 5", "mass");
        x.tell(0, 0, 0, 2, 900);
        CHECK.due("lap 1", x.split(0, 0, 1, 0), -1);
        CHECK.due("lap 2", x.split(0, 0, 2, 0), 900);
        CHECK.due("lap 3", x.split(0, 0, 3, 0), -1);
        CHECK.due("another's lap 2", x.split(0, 1, 2, 0), -1);
        x.tell(0, 0, 0, 2, -1);
        CHECK.due("taken away", x.split(0, 0, 2, 0), -1);
    }

    private static void splitAheadOfStart() {
        SkiShots x = one(2, 2, "1", "add 5", "every 30");
        int[] ends = {0, 299, 300, 301, 200000};
        int[] splits = {-1, -1, 0, 1, 199700};
        for (int i = 0; i < ends.length; i++) {
            x.tell(0, 1, 0, 1, ends[i]);
            CHECK.due("an end at " + ends[i], x.split(0, 1, 1, 0), splits[i]);
        }
        x.tell(0, 0, 0, 1, 0);
        CHECK.due("at 0, started at 0", x.split(0, 0, 1, 0), 0);
    }

    private static void splitWithoutAStart() {
        SkiShots x = chase(60, 1000, 1100);
        x.tell(1, 1, 0, 1, 500);
        CHECK.due("with a start", x.split(1, 1, 1, 0), 400);
        x.tell(0, 1, 3, 0, 1);
        CHECK.due("struck there, no start here", x.split(1, 1, 1, 0), -1);
        x.tell(0, 1, 3, 0, 0);
        x.tell(0, 1, 0, 2, 1599);
        CHECK.due("a tenth and more ahead of start", x.split(1, 1, 1, 0), -1);
        x.tell(0, 1, 0, 2, 1509);
        CHECK.due("at start", x.split(1, 1, 1, 0), 0);
    }

    private static void noSplit(int race, int racer, int lap, int day) {
        String call = "split(" + race + ", " + racer + ", " + lap + ", " + day + ")";
        CHECK.leavesAll(call, Worlds::usual, -2, x -> x.split(race, racer, lap, day));
    }

    private static void splitOfNoSuchOnes() {
        for (int race : new int[] {-1, 3, LEAST, GREATEST}) {
            noSplit(race, 0, 1, 0);
        }
        for (int racer : new int[] {-1, 3, 4, LEAST, GREATEST}) {
            noSplit(0, racer, 1, 0);
        }
        for (int lap : new int[] {-1, 0, 4, LEAST, GREATEST}) {
            noSplit(0, 0, lap, 0);
        }
        noSplit(1, 0, 3, 0);
        noSplit(2, 3, 5, 0);
        for (int day : new int[] {-1, 3, LEAST, GREATEST}) {
            noSplit(0, 0, 3, day);
        }
        CHECK.leavesAll("the first lap", Worlds::usual, -1, x -> x.split(0, 0, 1, 2));
        CHECK.leavesAll("the last lap", Worlds::usual, 5000, x -> x.split(0, 0, 3, 0));
        CHECK.leavesAll("the last lap today", Worlds::usual, 5000, x -> x.split(0, 0, 3, 2));
    }

    private static void noTimeThere(int race, int racer, int day, int what) {
        String call = "time(" + race + ", " + racer + ", " + day + ", " + what + ")";
        CHECK.leavesAll(call, Worlds::usual, -2, x -> x.time(race, racer, day, what));
    }

    private static void timeOfNoSuchOnes() {
        for (int what = 0; what <= 7; what++) {
            for (int race : new int[] {-1, 3, LEAST, GREATEST}) {
                noTimeThere(race, 0, 0, what);
            }
            for (int racer : new int[] {-1, 3, 4, LEAST, GREATEST}) {
                noTimeThere(0, racer, 0, what);
            }
            for (int day : new int[] {-1, 3, LEAST, GREATEST}) {
                noTimeThere(0, 0, day, what);
            }
        }
        for (int what : new int[] {-1, 8, LEAST, GREATEST}) {
            noTimeThere(0, 0, 0, what);
            noTimeThere(1, 1, 2, what);
        }
        int[] due = {0, 5000, 5600, 1, 2, 0, 1, 6};
        for (int what = 0; what <= 7; what++) {
            int which = what;
            CHECK.leavesAll("time what " + what, Worlds::usual, due[what], x -> x.time(0, 0, 2, which));
        }
    }

    private static void timeWithoutATime() {
        int[] due = {0, -1, -1, -1, -1, 0, 0, 15};
        for (int what = 0; what <= 7; what++) {
            int which = what;
            CHECK.leavesAll("no time, what " + what, Worlds::usual, due[what], x -> x.time(2, 3, 2, which));
        }
        int[] none = {-1, -1, -1, -1, -1, 0, 0, 5};
        for (int what = 0; what <= 7; what++) {
            int which = what;
            CHECK.leavesAll("no start on day 0, what " + what, Worlds::usual, none[what], x -> x.time(1, 1, 0, which));
        }
    }

    private static void orderOfSeveralAlike() {
        SkiShots x = Check.with(16, Check.format('A', 2, "1", "add 10", "mass"));
        x.race(0, -1);
        for (int i = 0; i < 16; i++) {
            x.enter(0, 15 - i);
        }
        for (int i = 0; i < 16; i++) {
            x.tell(0, i, 0, 2, 1000);
        }
        for (int k = 0; k < 16; k++) {
            CHECK.due("order " + k, x.order(0, 0, k), 15 - k);
        }
        CHECK.due("order 16", x.order(0, 0, 16), -1);
        x.tell(0, 0, 0, 2, 999);
        x.tell(0, 15, 0, 2, 1001);
        // HIGH does not matter.
        x.tell(0, 7, 1, 0, 31);
        CHECK.due("a tenth less", x.order(0, 0, 0), 0);
        CHECK.due("alike", x.order(0, 0, 1), 14);
        CHECK.due("alike, all hit", x.order(0, 0, 8), 7);
        CHECK.due("a tenth more", x.order(0, 0, 15), 15);
    }

    private static void noOrder(int race, int day, int k) {
        String call = "order(" + race + ", " + day + ", " + k + ")";
        CHECK.leavesAll(call, Worlds::usual, -1, x -> x.order(race, day, k));
    }

    private static void orderOfNoSuchOnes() {
        for (int race : new int[] {-1, 3, LEAST, GREATEST}) {
            noOrder(race, 0, 0);
        }
        for (int day : new int[] {-1, 3, LEAST, GREATEST}) {
            noOrder(0, day, 0);
        }
        for (int k : new int[] {-1, 2, 3, LEAST, GREATEST}) {
            noOrder(0, 0, k);
            noOrder(0, 2, k);
        }
        noOrder(2, 2, 0);
        int[][] due = {{0, 2}, {0, 1}, {0, 1}};
        for (int day = 0; day <= 2; day++) {
            for (int k = 0; k < 2; k++) {
                int on = day;
                int place = k;
                CHECK.leavesAll("order on " + day, Worlds::usual, due[day][k], x -> x.order(0, on, place));
            }
        }
    }
}
