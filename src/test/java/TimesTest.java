/** Promises 12 to 14: time, split, order. */
public final class TimesTest {
    private static final Check CHECK = new Check();

    public static void main(String[] args) {
        starts();
        whenThereIsATime();
        adding();
        loops();
        misses();
        places();
        chaseStarts();
        chaseOfAChase();
        chaseAsKnown();
        splits();
        orders();
        noSuch();
        CHECK.end();
    }

    private static void starts() {
        SkiShots x = Check.with(3, Check.format('A', 2, "1", "add 5", "mass"),
                Check.format('B', 2, "1", "add 5", "every 600"));
        x.race(0, -1);
        x.race(1, -1);
        for (int race = 0; race < 2; race++) {
            x.enter(race, 2);
            x.enter(race, 0);
            x.enter(race, 1);
        }
        CHECK.due("mass, third", x.time(0, 1, 0, 0), 0);
        CHECK.due("every, first", x.time(1, 2, 0, 0), 0);
        CHECK.due("every, second", x.time(1, 0, 0, 0), 6000);
        CHECK.due("every, third", x.time(1, 1, 0, 0), 12000);
        x.tell(1, 1, 3, 0, 1);
        CHECK.due("struck, but started", x.time(1, 1, 0, 0), 12000);
    }

    private static void dueTime(SkiShots x, String when, int racer, int low, int high) {
        CHECK.due(when + ": low", x.time(0, racer, x.count(0), 1), low);
        CHECK.due(when + ": high", x.time(0, racer, x.count(0), 2), high);
    }

    private static void whenThereIsATime() {
        SkiShots x = Check.with(2, Check.format('A', 3, "1", "add 0", "every 10"));
        Check.raceOf(x, 'A', -1, 2);
        x.tell(0, 1, 0, 2, 5000);
        dueTime(x, "the last lap isn't told", 1, -1, -1);
        CHECK.due("no first", x.time(0, 1, 0, 3), -1);
        CHECK.due("no last", x.time(0, 1, 0, 4), -1);
        x.tell(0, 1, 0, 3, 50);
        dueTime(x, "far ahead of the start", 1, -1, -1);
        x.tell(0, 1, 0, 3, 99);
        dueTime(x, "ahead of the start", 1, -1, -1);
        x.tell(0, 1, 0, 3, 100);
        dueTime(x, "at the start", 1, 0, 0);
        CHECK.due("first", x.time(0, 1, 0, 3), 1);
        x.tell(0, 1, 3, 0, 1);
        dueTime(x, "struck", 1, -1, -1);
        CHECK.due("struck is told", x.time(0, 1, 0, 5), 1);
        CHECK.due("the other isn't", x.time(0, 0, 0, 5), 0);
        x.tell(0, 1, 3, 0, 0);
        dueTime(x, "no more struck", 1, 0, 0);
        CHECK.due("struck no more", x.time(0, 1, 0, 5), 0);
    }

    private static void adding() {
        SkiShots x = Check.with(1, Check.format('A', 5, "1 2 3 4", "add 600", "mass"));
        Check.raceOf(x, 'A', -1, 1);
        x.tell(0, 0, 0, 5, 200000);
        dueTime(x, "nothing of targets", 0, 200000, 320000);
        x.tell(0, 0, 1, 0, 0);
        dueTime(x, "five missed", 0, 230000, 320000);
        x.tell(0, 0, 1, 2, 21);
        dueTime(x, "two more", 0, 242000, 302000);
        x.tell(0, 0, 2, 1, 3);
        x.tell(0, 0, 2, 2, 2);
        dueTime(x, "loops change nothing", 0, 242000, 302000);
        x.tell(0, 0, 1, 1, 31);
        x.tell(0, 0, 1, 3, 31);
        dueTime(x, "all told", 0, 242000, 242000);
    }

    private static void loops() {
        SkiShots x = Check.with(1, Check.format('A', 3, "1 2", "loop 25", "mass"));
        Check.raceOf(x, 'A', -1, 1);
        x.tell(0, 0, 0, 3, 5000);
        x.tell(0, 0, 1, 1, 31);
        dueTime(x, "nothing of the first", 0, 5000, 6250);
        x.tell(0, 0, 2, 0, 2);
        dueTime(x, "two run, misses not told", 0, 5000, 5750);
        x.tell(0, 0, 2, 0, 9);
        dueTime(x, "nine run, misses not told", 0, 5000, 5000);
        x.tell(0, 0, 2, 0, 0);
        dueTime(x, "none run, misses not told", 0, 5000, 6250);
        x.tell(0, 0, 1, 0, 3);
        dueTime(x, "none run of three", 0, 5750, 5750);
        x.tell(0, 0, 2, 0, 2);
        dueTime(x, "two run of three", 0, 5250, 5250);
        x.tell(0, 0, 2, 0, 3);
        dueTime(x, "three run of three", 0, 5000, 5000);
        x.tell(0, 0, 2, 0, 4);
        dueTime(x, "four run of three", 0, 5000, 5000);
        x.tell(0, 0, 1, 1, 0);
        dueTime(x, "one too many of the first pays nothing of the second", 0, 5000, 6250);
        x.tell(0, 0, 2, 0, -1);
        dueTime(x, "run, but not told", 0, 5000, 7000);
    }

    private static void misses() {
        SkiShots x = Check.with(1, Check.format('A', 3, "1 2", "loop 25", "chase 5"),
                Check.format('B', 2, "1", "add 5", "mass"));
        x.race(1, -1);
        x.race(0, 0);
        x.enter(1, 0);
        CHECK.due("at least", x.time(1, 0, 0, 6), 0);
        CHECK.due("at most", x.time(1, 0, 0, 7), 10);
        x.tell(1, 0, 1, 0, 1);
        x.tell(1, 0, 2, 0, 4);
        x.tell(1, 0, 3, 0, 1);
        CHECK.due("at least, without a start", x.time(1, 0, 0, 6), 4);
        CHECK.due("at most, without a start", x.time(1, 0, 0, 7), 9);
        x.tell(1, 0, 1, 1, 30);
        CHECK.due("at least, all told", x.time(1, 0, 0, 6), 5);
        CHECK.due("at most, all told", x.time(1, 0, 0, 7), 5);
    }

    private static void places() {
        SkiShots x = Check.with(5, Check.format('A', 2, "1", "add 10", "mass"));
        Check.raceOf(x, 'A', -1, 5);
        int[] ends = {1000, 1500, 1500, 1499, 900};
        for (int i = 0; i < ends.length; i++) {
            x.tell(0, i, 0, 2, ends[i]);
        }
        x.tell(0, 1, 1, 0, 31);
        x.tell(0, 2, 1, 0, 31);
        x.tell(0, 3, 1, 0, 31);
        x.tell(0, 4, 1, 0, 31);
        // Racer 0 may need 1000 to 1500, the others 1500, 1500, 1499 and 900.
        int[] first = {2, 3, 3, 2, 1};
        int[] last = {3, 4, 4, 3, 1};
        for (int i = 0; i < first.length; i++) {
            CHECK.due("first of " + i, x.time(0, i, 0, 3), first[i]);
            CHECK.due("last of " + i, x.time(0, i, 0, 4), last[i]);
        }
        x.tell(0, 0, 1, 0, 30);
        // Racer 0 needs 1100 now.
        int[] surely = {2, 4, 4, 3, 1};
        for (int i = 0; i < surely.length; i++) {
            CHECK.due("first of " + i + ", all told", x.time(0, i, 0, 3), surely[i]);
            CHECK.due("last of " + i + ", all told", x.time(0, i, 0, 4), surely[i]);
        }
        x.tell(0, 4, 3, 0, 1);
        x.tell(0, 3, 0, 2, -1);
        CHECK.due("first without those", x.time(0, 0, 0, 3), 1);
        CHECK.due("last without those", x.time(0, 0, 0, 4), 1);
        CHECK.due("first of one without a time", x.time(0, 3, 0, 3), -1);
        CHECK.due("last of one struck", x.time(0, 4, 0, 4), -1);
    }

    private static SkiShots chase(int seconds) {
        SkiShots x = Check.with(6, Check.format('A', 2, "1", "add 10", "mass"),
                Check.format('C', 2, "1", "add 0", "chase " + seconds));
        Check.raceOf(x, 'A', -1, 5);
        x.race(2, 0);
        for (int i = 5; i >= 1; i--) {
            x.enter(1, i);
        }
        int[] ends = {1000, 1009, 1010, 1605, 2999};
        for (int i = 0; i < ends.length; i++) {
            x.tell(0, i, 0, 2, ends[i]);
        }
        return x;
    }

    private static void dueStarts(SkiShots x, String when, int day, int... want) {
        for (int i = 1; i <= 5; i++) {
            CHECK.due(when + ": start of " + i, x.time(1, i, day, 0), want[i - 1]);
        }
    }

    private static void chaseStarts() {
        // Racer 0 leads though it does not enter the chase; racer 5 was not in the race before.
        dueStarts(chase(3600), "chase", 0, 0, 10, 600, 1990, -1);
        dueStarts(chase(199), "cut at 199", 0, 0, 10, 600, 1990, -1);
        dueStarts(chase(198), "cut at 198", 0, 0, 10, 600, 1980, -1);
        dueStarts(chase(60), "the tail together", 0, 0, 10, 600, 600, -1);
        dueStarts(chase(0), "all together", 0, 0, 0, 0, 0, -1);
        SkiShots x = chase(3600);
        x.tell(0, 2, 1, 0, 0);
        dueStarts(x, "misses told", 0, 0, 510, 600, 1990, -1);
        x.tell(0, 0, 3, 0, 1);
        dueStarts(x, "the first is struck", 0, 0, 500, 590, 1990, -1);
        x.tell(0, 3, 3, 0, 1);
        dueStarts(x, "another is struck", 0, 0, 500, -1, 1990, -1);
        x.tell(0, 1, 0, 2, -1);
        dueStarts(x, "one has no time", 0, -1, 0, -1, 1480, -1);
        x.tell(1, 4, 3, 0, 1);
        dueStarts(x, "struck in the chase alone", 0, -1, 0, -1, 1480, -1);
        x.tell(1, 2, 0, 2, 500);
        x.tell(1, 3, 0, 2, 500);
        CHECK.due("a time of the chase", x.time(1, 2, 0, 1), 500);
        CHECK.due("no time without a start", x.time(1, 3, 0, 1), -1);
        CHECK.due("its place is alone", x.time(1, 2, 0, 4), 1);
    }

    private static void chaseOfAChase() {
        SkiShots x = Check.with(2, Check.format('A', 2, "1", "add 0", "mass"),
                Check.format('C', 2, "1", "add 0", "chase 100"));
        Check.raceOf(x, 'A', -1, 2);
        for (int i = 1; i < 8; i++) {
            Check.raceOf(x, 'C', i - 1, 2);
        }
        for (int race = 0; race < 8; race++) {
            x.tell(race, 0, 0, 2, 1000);
            x.tell(race, 1, 0, 2, 1100 + 100 * race);
        }
        // What racer 1 loses from race to race: its end less the start that the loss before gave.
        int[] starts = {0, 100, 100, 200, 200, 300, 300, 400};
        for (int race = 0; race < 8; race++) {
            CHECK.due("start of race " + race, x.time(race, 1, 0, 0), starts[race]);
            CHECK.due("the leader's start", x.time(race, 0, 0, 0), 0);
            CHECK.due("low of race " + race, x.time(race, 1, 0, 1), 1100 + 100 * race - starts[race]);
        }
        x.tell(0, 1, 3, 0, 1);
        CHECK.due("struck in the first: no start in the second", x.time(1, 1, 0, 0), -1);
        CHECK.due("nor in the last", x.time(7, 1, 0, 0), -1);
        CHECK.due("nor a time there", x.time(7, 1, 0, 1), -1);
        CHECK.due("the other's start", x.time(7, 0, 0, 0), 0);
    }

    private static void chaseAsKnown() {
        SkiShots x = chase(3600);
        x.pass(1);
        x.tell(0, 0, 3, 0, 1);
        x.pass(1);
        x.tell(0, 4, 3, 0, 1);
        dueStarts(x, "on day 0", 0, 0, 10, 600, 1990, -1);
        dueStarts(x, "on day 1", 1, 0, 0, 590, 1990, -1);
        dueStarts(x, "on day 2", 2, 0, 0, 590, -1, -1);
        dueStarts(x, "on day 0 again", 0, 0, 10, 600, 1990, -1);
    }

    private static void splits() {
        SkiShots x = Check.with(3, Check.format('A', 2, "1", "add 60", "every 30"));
        Check.raceOf(x, 'A', -1, 2);
        CHECK.due("not told", x.split(0, 1, 1, 0), -1);
        x.tell(0, 1, 0, 1, 299);
        CHECK.due("ahead of the start", x.split(0, 1, 1, 0), -1);
        x.tell(0, 1, 0, 1, 0);
        CHECK.due("far ahead of the start", x.split(0, 1, 1, 0), -1);
        x.tell(0, 1, 0, 1, 300);
        CHECK.due("at the start", x.split(0, 1, 1, 0), 0);
        x.tell(0, 1, 0, 2, 1300);
        x.tell(0, 1, 1, 0, 0);
        CHECK.due("no penalties in it", x.split(0, 1, 2, 0), 1000);
        x.tell(0, 1, 3, 0, 1);
        CHECK.due("struck all the same", x.split(0, 1, 2, 0), 1000);
        CHECK.due("lap 0", x.split(0, 1, 0, 0), -2);
        CHECK.due("lap 3", x.split(0, 1, 3, 0), -2);
        CHECK.due("lap -1", x.split(0, 1, -1, 0), -2);
        CHECK.due("racer 2 has not entered", x.split(0, 2, 1, 0), -2);
        CHECK.due("no racer -1", x.split(0, -1, 1, 0), -2);
        CHECK.due("no race 1", x.split(1, 1, 1, 0), -2);
        CHECK.due("no race -1", x.split(-1, 1, 1, 0), -2);
        CHECK.due("day -1", x.split(0, 1, 1, -1), -2);
        CHECK.due("day 1", x.split(0, 1, 1, 1), -2);
        SkiShots y = chase(60);
        y.tell(1, 5, 0, 1, 700);
        y.tell(1, 4, 0, 1, 700);
        CHECK.due("without a start", y.split(1, 5, 1, 0), -1);
        CHECK.due("since its start", y.split(1, 4, 1, 0), 100);
    }

    private static void orders() {
        SkiShots x = Check.with(5, Check.format('A', 2, "1", "add 60", "mass"));
        x.race(0, -1);
        int[] entered = {3, 1, 4, 0, 2};
        int[] ends = {1000, 900, 1000, 900, 800};
        for (int racer : entered) {
            x.enter(0, racer);
        }
        CHECK.due("nobody has a time", x.order(0, 0, 0), -1);
        for (int i = 0; i < 5; i++) {
            x.tell(0, entered[i], 0, 2, ends[i]);
        }
        x.tell(0, 1, 1, 0, 31);
        int[] want = {2, 1, 0, 3, 4, -1};
        for (int k = 0; k < want.length; k++) {
            CHECK.due("order " + k, x.order(0, 0, k), want[k]);
        }
        x.pass(1);
        x.tell(0, 1, 3, 0, 1);
        x.tell(0, 3, 1, 0, 30);
        int[] later = {2, 0, 4, 3, -1};
        for (int k = 0; k < later.length; k++) {
            CHECK.due("order on day 1, " + k, x.order(0, 1, k), later[k]);
        }
        CHECK.due("day 0 as it was", x.order(0, 0, 1), 1);
        CHECK.due("k -1", x.order(0, 0, -1), -1);
        CHECK.due("day 2", x.order(0, 2, 0), -1);
        CHECK.due("day -1", x.order(0, -1, 0), -1);
        CHECK.due("race 1", x.order(1, 0, 0), -1);
        CHECK.due("race -1", x.order(-1, 0, 0), -1);
    }

    private static void noSuch() {
        SkiShots x = Check.with(2, Check.format('A', 2, "1", "add 60", "mass"));
        Check.raceOf(x, 'A', -1, 1);
        x.pass(4);
        for (int what = 0; what <= 7; what++) {
            CHECK.due("race 1, what " + what, x.time(1, 0, 0, what), -2);
            CHECK.due("race -1, what " + what, x.time(-1, 0, 0, what), -2);
            CHECK.due("racer 1 has not entered, what " + what, x.time(0, 1, 0, what), -2);
            CHECK.due("racer 2, what " + what, x.time(0, 2, 0, what), -2);
            CHECK.due("racer -1, what " + what, x.time(0, -1, 0, what), -2);
            CHECK.due("day 5, what " + what, x.time(0, 0, 5, what), -2);
            CHECK.due("day -1, what " + what, x.time(0, 0, -1, what), -2);
        }
        CHECK.due("what 8", x.time(0, 0, 4, 8), -2);
        CHECK.due("what -1", x.time(0, 0, 4, -1), -2);
        CHECK.due("today", x.time(0, 0, 4, 0), 0);
    }
}
