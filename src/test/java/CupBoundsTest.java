/** The bounds that Terms 4 and promises 15 to 17 name, each in a method of its own. */
public final class CupBoundsTest {
    private static final Check CHECK = new Check();
    private static final int LEAST = Integer.MIN_VALUE;
    private static final int GREATEST = Integer.MAX_VALUE;
    private static final String SURE = Check.format('A', 2, "1", "add 0", "mass");
    private static final String WIDE = Check.format('B', 2, "1", "add 600", "mass");

    public static void main(String[] args) {
        pointsFromTwentyToFive();
        pointsByLast();
        noPointsWithoutATime();
        pointsOfEightRaces();
        pointsOfNoSuchOnes();
        standingOfSeveralAlike();
        standingFromOneToSixteen();
        standingOfNoSuchOnes();
        startersAtLeastTwo();
        startersByStandingFive();
        startersWithAPoint();
        startersAtMostFour();
        startersOfTheNationAlone();
        startersOfNoSuchOnes();
        sparesAreToldAlone();
        CHECK.end();
    }

    /** Racers of these nations; race 0 of SURE that all enter, those who end at -1 without a time. */
    private static SkiShots finished(int[] nations, int... ends) {
        SkiShots x = Check.with(0, SURE, WIDE);
        for (int nation : nations) {
            x.racer(nation);
        }
        Check.raceOf(x, 'A', -1, nations.length);
        for (int i = 0; i < ends.length; i++) {
            x.tell(0, i, 0, 2, ends[i]);
        }
        return x;
    }

    private static int[] sixteen(int first, int step) {
        int[] row = new int[16];
        for (int i = 0; i < 16; i++) {
            row[i] = first + step * i;
        }
        return row;
    }

    private static void pointsFromTwentyToFive() {
        SkiShots x = finished(new int[16], sixteen(1000, 1));
        for (int i = 0; i < 16; i++) {
            CHECK.due("points of " + i, x.points(i, 0), 20 - i);
        }
        SkiShots alike = finished(new int[16], sixteen(1000, 0));
        for (int i = 0; i < 16; i++) {
            CHECK.due("points of several alike, " + i, alike.points(i, 0), 20);
        }
    }

    private static void pointsByLast() {
        SkiShots x = finished(new int[16]);
        Check.raceOf(x, 'B', -1, 16);
        for (int i = 0; i < 16; i++) {
            x.tell(1, i, 0, 2, 1000 + i);
        }
        for (int i = 0; i < 16; i++) {
            CHECK.due("all may be last, " + i, x.points(i, 0), 5);
        }
        x.tell(1, 15, 1, 0, 31);
        CHECK.due("surely last", x.points(15, 0), 5);
        x.tell(1, 0, 1, 0, 31);
        CHECK.due("surely first", x.points(0, 0), 20);
    }

    private static void noPointsWithoutATime() {
        SkiShots x = finished(new int[] {0, 1, 2, 3}, 1000, -1, 1100, 1200);
        x.racer(4);
        x.tell(0, 2, 3, 0, 1);
        int[] due = {20, 0, 0, 19, 0};
        for (int i = 0; i < due.length; i++) {
            CHECK.due("points of " + i, x.points(i, 0), due[i]);
        }
        x.tell(0, 2, 3, 0, -1);
        CHECK.due("the strike taken away", x.points(2, 0), 19);
        CHECK.due("who is behind it", x.points(3, 0), 18);
    }

    private static void pointsOfEightRaces() {
        SkiShots x = finished(new int[] {0, 1}, 1000, 1100);
        for (int race = 1; race < 8; race++) {
            Check.raceOf(x, 'A', -1, 2);
            x.tell(race, 0, 0, 2, 1000);
            x.tell(race, 1, 0, 2, 1100);
            CHECK.due("points of " + (race + 1) + " races", x.points(0, 0), 20 * (race + 1));
            CHECK.due("points of the other", x.points(1, 0), 19 * (race + 1));
        }
    }

    private static void pointsOfNoSuchOnes() {
        for (int racer : new int[] {-1, 4, 16, LEAST, GREATEST}) {
            CHECK.leavesAll("points(" + racer + ", 0)", Worlds::usual, -1, x -> x.points(racer, 0));
        }
        for (int day : new int[] {-1, 3, LEAST, GREATEST}) {
            CHECK.leavesAll("points(0, " + day + ")", Worlds::usual, -1, x -> x.points(0, day));
        }
        // Racer 0 may need 560 seconds, racer 2 at least 520; struck on day 1, when racer 1 comes in.
        CHECK.leavesAll("points(0, 0)", Worlds::usual, 19, x -> x.points(0, 0));
        CHECK.leavesAll("points(2, 0)", Worlds::usual, 19, x -> x.points(2, 0));
        CHECK.leavesAll("points(2, 1)", Worlds::usual, 0, x -> x.points(2, 1));
        CHECK.leavesAll("points(1, 0)", Worlds::usual, 0, x -> x.points(1, 0));
        CHECK.leavesAll("points(1, 2)", Worlds::usual, 19, x -> x.points(1, 2));
        CHECK.leavesAll("points(3, 2)", Worlds::usual, 0, x -> x.points(3, 2));
    }

    private static void standingOfSeveralAlike() {
        SkiShots x = finished(new int[6], 1000, 1000, 1100, 1100, -1, -1);
        int[] due = {1, 1, 3, 3, 5, 5};
        for (int i = 0; i < due.length; i++) {
            CHECK.due("standing of " + i, x.standing(i, 0), due[i]);
        }
        SkiShots none = Check.with(16, SURE);
        for (int i = 0; i < 16; i++) {
            CHECK.due("nobody has a point, " + i, none.standing(i, 0), 1);
        }
    }

    private static void standingFromOneToSixteen() {
        SkiShots x = finished(new int[16], sixteen(1000, 1));
        for (int i = 0; i < 16; i++) {
            CHECK.due("standing of " + i, x.standing(i, 0), i + 1);
        }
        x.tell(0, 0, 3, 0, 1);
        CHECK.due("struck: behind all", x.standing(0, 0), 16);
        CHECK.due("who is ahead now", x.standing(1, 0), 1);
    }

    private static void standingOfNoSuchOnes() {
        for (int racer : new int[] {-1, 4, 16, LEAST, GREATEST}) {
            CHECK.leavesAll("standing(" + racer + ", 0)", Worlds::usual, -1, x -> x.standing(racer, 0));
        }
        for (int day : new int[] {-1, 3, LEAST, GREATEST}) {
            CHECK.leavesAll("standing(0, " + day + ")", Worlds::usual, -1, x -> x.standing(0, day));
        }
        CHECK.leavesAll("standing(3, 0)", Worlds::usual, 3, x -> x.standing(3, 0));
        CHECK.leavesAll("standing(2, 0)", Worlds::usual, 1, x -> x.standing(2, 0));
        CHECK.leavesAll("standing(2, 2)", Worlds::usual, 3, x -> x.standing(2, 2));
    }

    private static void startersAtLeastTwo() {
        SkiShots x = new SkiShots();
        for (int nation = 0; nation <= 7; nation++) {
            CHECK.due("a nation without racers", x.starters(nation, 0), 2);
        }
        SkiShots behind = finished(new int[] {0, 0, 0, 0, 0, 1}, 1, 2, 3, 4, 5, 6);
        CHECK.due("its racer is sixth", behind.starters(1, 0), 2);
    }

    private static void startersByStandingFive() {
        SkiShots x = finished(new int[] {0, 1, 2, 3, 4, 5, 6}, 100, 200, 300, 400, 500, 600, 700);
        int[] due = {3, 3, 3, 3, 3, 2, 2, 2};
        for (int nation = 0; nation < due.length; nation++) {
            CHECK.due("starters of " + nation, x.starters(nation, 0), due[nation]);
        }
        SkiShots alike = finished(new int[] {0, 1, 2, 3, 4, 5, 6}, 100, 200, 300, 400, 500, 500, 500);
        CHECK.due("fifth with others", alike.starters(6, 0), 3);
        SkiShots ahead = finished(new int[] {0, 1, 2, 3, 4, 5, 6}, 100, 200, 300, 400, 400, 500, 500);
        CHECK.due("fourth with another", ahead.starters(4, 0), 3);
        CHECK.due("sixth with another", ahead.starters(5, 0), 2);
    }

    private static void startersWithAPoint() {
        SkiShots x = finished(new int[] {0, 1, 2}, 100, -1, 200);
        CHECK.due("stands third", x.standing(1, 0), 3);
        CHECK.due("without a point", x.starters(1, 0), 2);
        CHECK.due("with points", x.starters(2, 0), 3);
        x.tell(0, 2, 3, 0, 1);
        CHECK.due("stands second", x.standing(2, 0), 2);
        CHECK.due("struck", x.starters(2, 0), 2);
    }

    private static void startersAtMostFour() {
        int[] due = {3, 4, 4, 4, 4, 4};
        for (int count = 1; count <= 6; count++) {
            SkiShots x = finished(new int[count], java.util.Arrays.copyOf(sixteen(100, 1), count));
            CHECK.due(count + " racers with points", x.starters(0, 0), due[count - 1]);
        }
        SkiShots all = finished(new int[16], sixteen(1000, 0));
        CHECK.due("sixteen stand first", all.starters(0, 0), 4);
    }

    private static void startersOfTheNationAlone() {
        SkiShots x = finished(new int[] {7, 0, 7, 0, 3}, 100, 200, 300, 400, 500);
        int[] due = {4, 2, 2, 3, 2, 2, 2, 4};
        for (int nation = 0; nation < due.length; nation++) {
            CHECK.due("starters of " + nation, x.starters(nation, 0), due[nation]);
        }
    }

    private static void startersOfNoSuchOnes() {
        for (int nation : new int[] {-1, 8, LEAST, GREATEST}) {
            CHECK.leavesAll("starters(" + nation + ", 0)", Worlds::usual, -1, x -> x.starters(nation, 0));
        }
        for (int day : new int[] {-1, 3, LEAST, GREATEST}) {
            CHECK.leavesAll("starters(0, " + day + ")", Worlds::usual, -1, x -> x.starters(0, day));
        }
        CHECK.leavesAll("starters(0, 2)", Worlds::usual, 3, x -> x.starters(0, 2));
        CHECK.leavesAll("starters(2, 0)", Worlds::usual, 3, x -> x.starters(2, 0));
        CHECK.leavesAll("starters(2, 1)", Worlds::usual, 2, x -> x.starters(2, 1));
        CHECK.leavesAll("starters(7, 2)", Worlds::usual, 2, x -> x.starters(7, 2));
    }

    /** Spares change neither what may be told of targets nor what misses cost. */
    private static void sparesAreToldAlone() {
        for (int spares = 0; spares <= 3; spares++) {
            SkiShots x = Check.with(1, WIDE.replace("spares 0", "spares " + spares));
            Check.raceOf(x, 'B', -1, 1);
            CHECK.dueLook(x, 0, 3, Integer.toString(spares));
            x.tell(0, 0, 0, 2, 1000);
            CHECK.due("misses at most", x.time(0, 0, 0, 7), 5);
            CHECK.due("high", x.time(0, 0, 0, 2), 31000);
            CHECK.due("more than five targets", x.tell(0, 0, 1, 0, 32), -1);
            x.tell(0, 0, 1, 0, 30);
            CHECK.due("low of one missed", x.time(0, 0, 0, 1), 7000);
            CHECK.due("high of one missed", x.time(0, 0, 0, 2), 7000);
        }
    }
}
