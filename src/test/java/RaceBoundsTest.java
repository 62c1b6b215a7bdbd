/** The bounds that Terms 2 and promises 5 to 8, 10, 11 and 18 name, each in a method of its own. */
public final class RaceBoundsTest {
    private static final Check CHECK = new Check();
    private static final int LEAST = Integer.MIN_VALUE;
    private static final int GREATEST = Integer.MAX_VALUE;

    public static void main(String[] args) {
        daysUpToTwoHundred();
        noDaysBelowZero();
        nationsZeroToSeven();
        racersAtMostSixteen();
        namesOfRaces();
        racesAtMostEight();
        aChaseStartsByARaceAhead();
        othersStartByNone();
        theFormatAsItWas();
        enterOfNoSuchOnes();
        enterOnce();
        enterAheadOfEvents();
        entriesInTheirOrder();
        noSuchEntry();
        lookAtNoSuchRace();
        lookAtNoSuchWhat();
        looksAtTheirBounds();
        countOfAnotherWhat();
        CHECK.end();
    }

    private static void daysUpToTwoHundred() {
        SkiShots x = new SkiShots();
        CHECK.due("all at once", x.pass(200), 200);
        CHECK.due("none more", x.pass(0), 200);
        CHECK.due("one more", x.pass(1), -1);
        CHECK.due("as many as an int has", x.pass(GREATEST), -1);
        CHECK.due("still 200", x.count(0), 200);
        CHECK.leavesAll("201 of a new object", SkiShots::new, -1, y -> y.pass(201));
        CHECK.leavesAll("199 from day 2", Worlds::usual, -1, y -> y.pass(199));
        CHECK.leavesAll("the greatest from day 2", Worlds::usual, -1, y -> y.pass(GREATEST));
        CHECK.leavesAll("0 from day 2", Worlds::usual, 2, y -> y.pass(0));
        CHECK.due("198 from day 2", Worlds.usual().pass(198), 200);
        x = new SkiShots();
        for (int day = 1; day <= 200; day++) {
            CHECK.due("one by one", x.pass(1), day);
        }
        CHECK.due("one more than one by one", x.pass(1), -1);
    }

    private static void noDaysBelowZero() {
        for (int days : new int[] {-1, -2, -200, LEAST}) {
            CHECK.leavesAll("pass(" + days + ")", Worlds::usual, -1, x -> x.pass(days));
        }
    }

    private static void nationsZeroToSeven() {
        for (int nation = 0; nation <= 7; nation++) {
            CHECK.due("racer(" + nation + ")", Worlds.usual().racer(nation), 4);
        }
        for (int nation : new int[] {-1, 8, LEAST, GREATEST}) {
            CHECK.leavesAll("racer(" + nation + ")", Worlds::usual, -1, x -> x.racer(nation));
        }
    }

    private static void racersAtMostSixteen() {
        SkiShots x = new SkiShots();
        for (int i = 0; i < 16; i++) {
            CHECK.due("racer " + i, x.racer(i % 8), i);
            CHECK.due("so many", x.count(2), i + 1);
        }
        CHECK.leavesAll("a seventeenth", () -> Check.with(16, Worlds.LOOP), -1, y -> y.racer(0));
        CHECK.leavesAll("a seventeenth of no nation", () -> Check.with(16, Worlds.LOOP), -1, y -> y.racer(8));
    }

    private static void namesOfRaces() {
        for (int name : new int[] {-1, 8, 3, 7, LEAST, GREATEST}) {
            CHECK.leavesAll("race(" + name + ", -1)", Worlds::usual, -1, x -> x.race(name, -1));
            CHECK.leavesAll("race(" + name + ", 0)", Worlds::usual, -1, x -> x.race(name, 0));
        }
        SkiShots x = Check.with(0, Worlds.LOOP, Worlds.EVERY.replace(" C", " H"));
        CHECK.due("race of A", x.race(0, -1), 0);
        CHECK.due("race of H", x.race(7, -1), 1);
        CHECK.dueLook(x, 0, 0, "0");
        CHECK.dueLook(x, 1, 0, "7");
    }

    private static void racesAtMostEight() {
        SkiShots x = Check.with(0, Worlds.LOOP);
        for (int i = 0; i < 8; i++) {
            CHECK.due("race " + i, x.race(0, -1), i);
            CHECK.due("so many", x.count(3), i + 1);
        }
        CHECK.leavesAll("a ninth", Worlds::eightRaces, -1, y -> y.race(0, -1));
        CHECK.leavesAll("a ninth, a chase", Worlds::eightRaces, -1, y -> y.race(1, 0));
        CHECK.leavesAll("a ninth by the eighth", Worlds::eightRaces, -1, y -> y.race(1, 7));
    }

    private static void aChaseStartsByARaceAhead() {
        for (int by : new int[] {-1, -2, 3, 4, 8, LEAST, GREATEST}) {
            CHECK.leavesAll("race(1, " + by + ")", Worlds::usual, -1, x -> x.race(1, by));
        }
        CHECK.leavesAll("a chase ahead of all", () -> Check.with(0, Worlds.CHASE), -1, x -> x.race(1, 0));
        for (int by = 0; by < 3; by++) {
            SkiShots x = Worlds.usual();
            CHECK.due("race(1, " + by + ")", x.race(1, by), 3);
            CHECK.dueLook(x, 3, 4, Integer.toString(by));
        }
    }

    private static void othersStartByNone() {
        for (int by : new int[] {0, 1, 2, 3, -2, LEAST, GREATEST}) {
            CHECK.leavesAll("mass by " + by, Worlds::usual, -1, x -> x.race(0, by));
            CHECK.leavesAll("every by " + by, Worlds::usual, -1, x -> x.race(2, by));
        }
        for (int name : new int[] {0, 2}) {
            SkiShots x = Worlds.usual();
            CHECK.due("race(" + name + ", -1)", x.race(name, -1), 3);
            CHECK.dueLook(x, 3, 4, "-1");
        }
    }

    private static void theFormatAsItWas() {
        SkiShots x = Worlds.usual();
        x.formats(0);
        CHECK.due("no format any more", x.race(0, -1), -1);
        CHECK.dueLook(x, 0, 1, "3");
        CHECK.dueLook(x, 0, 2, "2");
        CHECK.due("misses of two shootings", x.time(0, 1, 2, 7), 10);
        Check.formats(x, Check.format('A', 6, "1 2 3 4", "add 600", "every 600"));
        CHECK.dueLook(x, 0, 1, "3");
        CHECK.due("low as it was", x.time(0, 0, 2, 1), 5000);
        CHECK.due("high as it was", x.time(0, 0, 2, 2), 5000 + 600);
        CHECK.due("start as it was", x.time(0, 0, 2, 0), 0);
        CHECK.due("lap 4 can't be told", x.tell(0, 0, 0, 4, 1), -1);
        CHECK.due("shooting 2 can't be told", x.tell(0, 0, 1, 2, 1), -1);
        CHECK.due("a race of the new text", x.race(0, -1), 3);
        CHECK.dueLook(x, 3, 1, "6");
        CHECK.dueLook(x, 3, 2, "4");
        Check.formats(x, "format A{laps 7");
        CHECK.dueLook(x, 3, 1, "6");
        CHECK.due("a fault leaves the new text", x.race(0, -1), 4);
    }

    private static void enterOfNoSuchOnes() {
        for (int wrong : new int[] {-1, 3, LEAST, GREATEST}) {
            CHECK.leavesAll("enter(" + wrong + ", 0)", Worlds::usual, -1, x -> x.enter(wrong, 0));
        }
        for (int wrong : new int[] {-1, 4, 16, LEAST, GREATEST}) {
            CHECK.leavesAll("enter(2, " + wrong + ")", Worlds::usual, -1, x -> x.enter(2, wrong));
        }
        for (int racer = 0; racer < 3; racer++) {
            CHECK.due("enter(2, " + racer + ")", Worlds.usual().enter(2, racer), 2);
        }
    }

    private static void enterOnce() {
        CHECK.leavesAll("the same once more", Worlds::usual, -1, x -> x.enter(2, 3));
        for (int racer : new int[] {0, 7, 15}) {
            CHECK.leavesAll("a seventeenth entry", Worlds::sixteenRacers, -1, x -> x.enter(0, racer));
        }
        SkiShots x = Check.with(16, Worlds.LOOP);
        x.race(0, -1);
        for (int i = 0; i < 16; i++) {
            CHECK.due("entry " + i, x.enter(0, 15 - i), i + 1);
            CHECK.due("and again", x.enter(0, 15 - i), -1);
        }
    }

    private static void enterAheadOfEvents() {
        CHECK.leavesAll("a race with events", Worlds::usual, -1, x -> x.enter(0, 3));
        CHECK.leavesAll("a race with one event", Worlds::usual, -1, x -> x.enter(1, 2));
        SkiShots x = Worlds.usual();
        CHECK.due("an event that can't be", x.tell(2, 3, 0, 5, 1), -1);
        CHECK.due("none was told", x.enter(2, 0), 2);
        CHECK.due("taken away, never told", x.tell(2, 3, 0, 1, -1), 7);
        CHECK.due("that is an event too", x.enter(2, 1), -1);
        CHECK.dueLook(x, 2, 5, "2");
    }

    private static void entriesInTheirOrder() {
        SkiShots x = Worlds.usual();
        int[] entered = {2, 0, 1, -1};
        for (int i = 0; i < entered.length; i++) {
            CHECK.due("entry(0, " + i + ")", x.entry(0, i), entered[i]);
        }
        SkiShots full = Worlds.sixteenRacers();
        for (int i = 0; i < 16; i++) {
            CHECK.due("entry(0, " + i + ")", full.entry(0, i), i);
        }
        CHECK.due("entry(0, 16)", full.entry(0, 16), -1);
    }

    private static void noSuchEntry() {
        for (int i : new int[] {-1, 3, LEAST, GREATEST}) {
            CHECK.leavesAll("entry(0, " + i + ")", Worlds::usual, -1, x -> x.entry(0, i));
        }
        for (int race : new int[] {-1, 3, LEAST, GREATEST}) {
            CHECK.leavesAll("entry(" + race + ", 0)", Worlds::usual, -1, x -> x.entry(race, 0));
        }
        CHECK.due("of a race that nobody has entered", Worlds.eightRaces().entry(7, 0), -1);
    }

    private static void lookAtNoSuchRace() {
        for (int race : new int[] {-1, 3, 8, LEAST, GREATEST}) {
            for (int what = -1; what <= 7; what++) {
                CHECK.lookLeavesAll(Worlds::usual, race, what, "IndexOutOfBoundsException");
            }
        }
        CHECK.lookLeavesAll(SkiShots::new, 0, 0, "IndexOutOfBoundsException");
        CHECK.dueLook(Worlds.eightRaces(), 8, 0, "IndexOutOfBoundsException");
        CHECK.dueLook(Worlds.eightRaces(), 7, 0, "1");
    }

    private static void lookAtNoSuchWhat() {
        for (int what : new int[] {-1, 7, LEAST, GREATEST}) {
            for (int race = 0; race < 3; race++) {
                CHECK.lookLeavesAll(Worlds::usual, race, what, "NoSuchElementException");
            }
        }
    }

    private static void looksAtTheirBounds() {
        int[][] due = {{0, 3, 2, 0, -1, 3, 5}, {1, 2, 1, 0, 0, 2, 1}, {2, 4, 3, 0, -1, 1, 0}};
        for (int race = 0; race < due.length; race++) {
            for (int what = 0; what <= 6; what++) {
                CHECK.lookLeavesAll(Worlds::usual, race, what, Integer.toString(due[race][what]));
            }
        }
        for (int spares = 0; spares <= 3; spares++) {
            SkiShots x = Check.with(0, Worlds.LOOP.replace("spares 0", "spares " + spares));
            x.race(0, -1);
            CHECK.dueLook(x, 0, 3, Integer.toString(spares));
        }
    }

    private static void countOfAnotherWhat() {
        int[] due = {2, 3, 4, 3, 6};
        for (int what = 0; what <= 4; what++) {
            int answer = due[what];
            int which = what;
            CHECK.leavesAll("count(" + what + ")", Worlds::usual, answer, x -> x.count(which));
        }
        for (int what : new int[] {-1, 5, LEAST, GREATEST}) {
            CHECK.leavesAll("count(" + what + ")", Worlds::usual, -1, x -> x.count(what));
        }
    }
}
