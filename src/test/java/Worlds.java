/** Objects that tests of refused calls begin with: always the same, by the same calls. */
final class Worlds {
    static final String LOOP = Check.format('A', 3, "1 2", "loop 10", "mass");
    static final String CHASE = Check.format('B', 2, "1", "add 5", "chase 60");
    static final String EVERY = Check.format('C', 4, "1 2 3", "add 20", "every 30");

    private Worlds() {
    }

    /**
     * Day 2; formats A, B and C and a started tape; racers 0 to 3; race 0 (A) with entries 2, 0, 1 and
     * events of days 0 and 1, race 1 (B) by race 0 with entries 0 and 1 and an event, race 2 (C) with the
     * entry 3 and no event.
     */
    static SkiShots usual() {
        SkiShots x = Check.with(4, LOOP, CHASE, EVERY);
        x.race(0, -1);
        x.race(1, 0);
        x.race(2, -1);
        x.enter(0, 2);
        x.enter(0, 0);
        x.enter(0, 1);
        x.enter(1, 0);
        x.enter(1, 1);
        x.enter(2, 3);
        x.tell(0, 0, 0, 3, 5000);
        x.tell(0, 0, 1, 0, 15);
        x.tell(0, 2, 0, 3, 5200);
        x.pass(1);
        x.tell(0, 1, 0, 3, 5123);
        x.tell(0, 2, 3, 0, 1);
        x.tell(1, 1, 0, 1, 700);
        x.pass(1);
        Check.feed(x, LOOP);
        return x;
    }

    /** Racers 0 to 15, and one race that all have entered. */
    static SkiShots sixteenRacers() {
        SkiShots x = Check.with(16, LOOP);
        Check.raceOf(x, 'A', -1, 16);
        return x;
    }

    /** Eight races, the last a chase by the first, and one racer. */
    static SkiShots eightRaces() {
        SkiShots x = Check.with(1, LOOP, CHASE);
        for (int i = 0; i < 7; i++) {
            x.race(0, -1);
        }
        x.race(1, 0);
        return x;
    }

    /** One race with one entry, of which so many events were told, and a second race without. */
    static SkiShots events(int told) {
        SkiShots x = Check.with(2, CHASE.replace("chase 60", "mass"));
        Check.raceOf(x, 'B', -1, 1);
        Check.raceOf(x, 'B', -1, 1);
        for (int i = 1; i <= told; i++) {
            x.tell(0, 0, 0, 1 + i % 2, i);
        }
        return x;
    }
}
