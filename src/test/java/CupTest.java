/** Promises 15 to 17: points, standing, starters. */
public final class CupTest {
    private static final Check CHECK = new Check();
    private static final String MASS = Check.format('A', 2, "1", "add 10", "mass");

    public static void main(String[] args) {
        empty();
        severalRaces();
        asKnown();
        wideSpans();
        standings();
        startersOfNations();
        noSuch();
        CHECK.end();
    }

    private static void finish(SkiShots x, int race, int racer, int end) {
        x.tell(race, racer, 0, 2, end);
        x.tell(race, racer, 1, 0, 31);
    }

    private static void empty() {
        SkiShots x = Check.with(2, MASS);
        CHECK.due("no points", x.points(1, 0), 0);
        CHECK.due("all stand first", x.standing(1, 0), 1);
        CHECK.due("two start without a point", x.starters(1, 0), 2);
        CHECK.due("two start of a nation without racers", x.starters(7, 0), 2);
    }

    private static void severalRaces() {
        SkiShots x = Check.with(4, MASS);
        Check.raceOf(x, 'A', -1, 3);
        Check.raceOf(x, 'A', -1, 4);
        finish(x, 0, 0, 1000);
        finish(x, 0, 1, 1100);
        finish(x, 0, 2, 1100);
        finish(x, 1, 2, 900);
        finish(x, 1, 3, 950);
        finish(x, 1, 0, 960);
        x.tell(1, 1, 1, 0, 31);
        int[] points = {20 + 18, 19, 19 + 20, 19};
        int[] standing = {2, 3, 1, 3};
        for (int i = 0; i < 4; i++) {
            CHECK.due("points of " + i, x.points(i, 0), points[i]);
            CHECK.due("standing of " + i, x.standing(i, 0), standing[i]);
        }
        CHECK.due("asked twice, the same", x.points(2, 0), 39);
    }

    private static void asKnown() {
        SkiShots x = Check.with(2, MASS);
        Check.raceOf(x, 'A', -1, 2);
        finish(x, 0, 0, 1000);
        x.pass(1);
        finish(x, 0, 1, 900);
        x.pass(1);
        x.tell(0, 1, 3, 0, 1);
        int[][] points = {{20, 0}, {19, 20}, {20, 0}};
        int[][] standing = {{1, 2}, {2, 1}, {1, 2}};
        int[][] starters = {{3, 2}, {3, 3}, {3, 2}};
        for (int day = 0; day < 3; day++) {
            for (int i = 0; i < 2; i++) {
                CHECK.due("points of " + i + " on " + day, x.points(i, day), points[day][i]);
                CHECK.due("standing of " + i + " on " + day, x.standing(i, day), standing[day][i]);
                CHECK.due("starters of " + i + " on " + day, x.starters(i, day), starters[day][i]);
            }
        }
    }

    /** Points go by the last place that may be, and none of several alike has the points above. */
    private static void wideSpans() {
        SkiShots x = Check.with(16, MASS);
        Check.raceOf(x, 'A', -1, 16);
        for (int i = 0; i < 16; i++) {
            x.tell(0, i, 0, 2, 1000 + i);
        }
        for (int i = 0; i < 16; i++) {
            CHECK.due("points of " + i, x.points(i, 0), 5);
            CHECK.due("standing of " + i, x.standing(i, 0), 1);
        }
        CHECK.due("two racers with points", x.starters(3, 0), 4);
        x.tell(0, 7, 1, 0, 31);
        CHECK.due("now sure", x.points(7, 0), 13);
        CHECK.due("the others fall", x.standing(6, 0), 2);
    }

    private static void standings() {
        SkiShots x = Check.with(8, MASS);
        Check.raceOf(x, 'A', -1, 7);
        int[] ends = {700, 600, 500, 500, 300, 300, 300};
        for (int i = 0; i < 7; i++) {
            finish(x, 0, i, ends[i]);
        }
        int[] standing = {7, 6, 4, 4, 1, 1, 1, 8};
        for (int i = 0; i < 8; i++) {
            CHECK.due("standing of " + i, x.standing(i, 0), standing[i]);
        }
        int[] starters = {2, 2, 3, 3, 3, 3, 3, 2};
        for (int nation = 0; nation < 8; nation++) {
            CHECK.due("starters of " + nation, x.starters(nation, 0), starters[nation]);
        }
    }

    private static void startersOfNations() {
        SkiShots x = Check.with(0, MASS);
        int[] nations = {0, 0, 0, 1, 1, 1, 2};
        for (int nation : nations) {
            x.racer(nation);
        }
        Check.raceOf(x, 'A', -1, 7);
        for (int i = 0; i < 7; i++) {
            finish(x, 0, i, 1000 + 100 * i);
        }
        CHECK.due("three stand high, four at most", x.starters(0, 0), 4);
        CHECK.due("fourth and fifth, not the sixth", x.starters(1, 0), 4);
        CHECK.due("the seventh", x.starters(2, 0), 2);
        x.tell(0, 3, 3, 0, 1);
        CHECK.due("fourth and fifth, one struck", x.starters(1, 0), 4);
        x.tell(0, 4, 3, 0, 1);
        CHECK.due("fourth alone", x.starters(1, 0), 3);
        CHECK.due("now the fifth", x.starters(2, 0), 3);
        for (int i = 0; i < 4; i++) {
            x.tell(0, i, 3, 0, 1);
        }
        CHECK.due("those without a point don't count, wherever they stand", x.standing(0, 0), 3);
        CHECK.due("so two", x.starters(0, 0), 2);
    }

    private static void noSuch() {
        SkiShots x = Check.with(2, MASS);
        x.pass(3);
        int[] wrong = {-1, 2, Integer.MAX_VALUE, Integer.MIN_VALUE};
        for (int racer : wrong) {
            CHECK.due("points of " + racer, x.points(racer, 0), -1);
            CHECK.due("standing of " + racer, x.standing(racer, 0), -1);
        }
        CHECK.due("starters of -1", x.starters(-1, 0), -1);
        CHECK.due("starters of 8", x.starters(8, 0), -1);
        int[] days = {-1, 4, Integer.MAX_VALUE, Integer.MIN_VALUE};
        for (int day : days) {
            CHECK.due("points on " + day, x.points(0, day), -1);
            CHECK.due("standing on " + day, x.standing(0, day), -1);
            CHECK.due("starters on " + day, x.starters(0, day), -1);
        }
        CHECK.due("points today", x.points(0, 3), 0);
        CHECK.due("standing today", x.standing(0, 3), 1);
        CHECK.due("starters today", x.starters(0, 3), 2);
    }
}
