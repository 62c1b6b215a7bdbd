/** Promise 9: tell, and what is known of it on each day. */
public final class EventsTest {
    private static final Check CHECK = new Check();
    private static final String LOOP = Check.format('A', 3, "1 2", "loop 10", "mass");
    private static final String ADD = Check.format('B', 2, "1", "add 10", "mass");

    public static void main(String[] args) {
        whatCanBe();
        wrongOnes();
        mostEvents();
        toldLate();
        takenAway();
        strictlyApart();
        CHECK.end();
    }

    private static SkiShots oneRace() {
        SkiShots x = Check.with(3, LOOP, ADD);
        Check.raceOf(x, 'A', -1, 2);
        return x;
    }

    private static void whatCanBe() {
        SkiShots x = oneRace();
        int[][] fine = {
            {0, 1, 0}, {0, 3, 200000}, {0, 2, -1}, {1, 0, 0}, {1, 1, 31}, {1, 1, -1},
            {2, 0, 0}, {2, 1, 9}, {2, 1, -1}, {3, 0, 0}, {3, 0, 1}, {3, 0, -1},
        };
        for (int i = 0; i < fine.length; i++) {
            CHECK.due("fine " + i, x.tell(0, 1, fine[i][0], fine[i][1], fine[i][2]), i + 1);
        }
        Check.raceOf(x, 'B', -1, 1);
        CHECK.due("all races count together", x.tell(1, 0, 0, 2, 5), fine.length + 1);
        CHECK.due("loops where a miss adds", x.tell(1, 0, 2, 0, 5), fine.length + 2);
    }

    private static void wrongOnes() {
        SkiShots x = oneRace();
        int[][] wrong = {
            {1, 0, 0, 1, 5}, {-1, 0, 0, 1, 5}, {0, 2, 0, 1, 5}, {0, 3, 0, 1, 5}, {0, -1, 0, 1, 5},
            {0, 0, -1, 0, 0}, {0, 0, 4, 0, 0}, {0, 0, 0, 0, 5}, {0, 0, 0, 4, 5}, {0, 0, 0, -1, 5},
            {0, 0, 0, 1, -2}, {0, 0, 0, 1, 200001}, {0, 0, 1, -1, 5}, {0, 0, 1, 2, 5}, {0, 0, 1, 0, -2},
            {0, 0, 1, 0, 32}, {0, 0, 2, -1, 5}, {0, 0, 2, 2, 5}, {0, 0, 2, 0, -2}, {0, 0, 2, 0, 10},
            {0, 0, 3, -1, 1}, {0, 0, 3, 1, 1}, {0, 0, 3, 0, -2}, {0, 0, 3, 0, 2},
        };
        for (int[] w : wrong) {
            String call = "tell(" + w[0] + ", " + w[1] + ", " + w[2] + ", " + w[3] + ", " + w[4] + ")";
            CHECK.due(call, x.tell(w[0], w[1], w[2], w[3], w[4]), -1);
        }
        CHECK.due("none was told", x.count(4), 0);
        CHECK.due("so all may enter", x.enter(0, 2), 3);
    }

    private static void mostEvents() {
        SkiShots x = oneRace();
        for (int i = 1; i <= 400; i++) {
            CHECK.due("event " + i, x.tell(0, i % 2, 0, 3, i), i);
        }
        CHECK.due("one more", x.tell(0, 0, 0, 3, 1), -1);
        CHECK.due("count(4)", x.count(4), 400);
        CHECK.dueLook(x, 0, 6, "400");
        CHECK.due("the latest counts", x.split(0, 0, 3, 0), 400);
        CHECK.due("and of the other", x.split(0, 1, 3, 0), 399);
    }

    private static void toldLate() {
        SkiShots x = oneRace();
        x.pass(2);
        x.tell(0, 0, 0, 3, 1000);
        x.pass(3);
        x.tell(0, 0, 0, 3, 2000);
        x.tell(0, 0, 0, 3, 1500);
        x.pass(1);
        int[] due = {-1, -1, 1000, 1000, 1000, 1500, 1500};
        for (int day = 0; day < due.length; day++) {
            CHECK.due("lap 3 on day " + day, x.split(0, 0, 3, day), due[day]);
        }
        CHECK.due("tomorrow", x.split(0, 0, 3, 7), -2);
    }

    private static void takenAway() {
        SkiShots x = oneRace();
        x.tell(0, 0, 0, 3, 1000);
        x.tell(0, 0, 1, 0, 31);
        x.tell(0, 0, 1, 1, 15);
        x.tell(0, 0, 2, 1, 1);
        x.pass(1);
        x.tell(0, 0, 1, 0, 7);
        x.tell(0, 0, 1, 0, -1);
        x.tell(0, 0, 2, 1, -1);
        x.pass(1);
        x.tell(0, 0, 0, 3, -1);
        x.pass(1);
        x.tell(0, 0, 0, 3, 900);
        x.tell(0, 0, 3, 0, 1);
        x.pass(1);
        x.tell(0, 0, 3, 0, -1);
        int[] low = {1000, 1000, -1, -1, 900};
        int[] high = {1000, 1000 + 500 + 100, -1, -1, 900 + 500 + 100};
        int[] misses = {1, 6, 6, 6, 6};
        int[] struck = {0, 0, 0, 1, 0};
        for (int day = 0; day < low.length; day++) {
            CHECK.due("low on day " + day, x.time(0, 0, day, 1), low[day]);
            CHECK.due("high on day " + day, x.time(0, 0, day, 2), high[day]);
            CHECK.due("misses at most on day " + day, x.time(0, 0, day, 7), misses[day]);
            CHECK.due("struck on day " + day, x.time(0, 0, day, 5), struck[day]);
        }
    }

    /** Neither another k, nor another sort, nor another racer's event changes what is known. */
    private static void strictlyApart() {
        SkiShots x = oneRace();
        x.tell(0, 0, 0, 1, 100);
        x.tell(0, 0, 0, 2, 200);
        x.tell(0, 0, 0, 3, 300);
        x.tell(0, 1, 0, 1, 150);
        x.tell(0, 0, 1, 1, 30);
        x.tell(0, 0, 2, 1, 9);
        CHECK.due("lap 1", x.split(0, 0, 1, 0), 100);
        CHECK.due("lap 2", x.split(0, 0, 2, 0), 200);
        CHECK.due("lap 3", x.split(0, 0, 3, 0), 300);
        CHECK.due("lap 1 of the other", x.split(0, 1, 1, 0), 150);
        CHECK.due("lap 2 of the other", x.split(0, 1, 2, 0), -1);
        CHECK.due("misses at least", x.time(0, 0, 0, 6), 1);
        CHECK.due("misses at most", x.time(0, 0, 0, 7), 6);
    }
}
