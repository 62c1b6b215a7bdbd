/** Promises 5 to 8, 10, 11 and 18: pass, racer, race, enter, look, entry, count. */
public final class RacesTest {
    private static final Check CHECK = new Check();
    private static final String MASS = Check.format('A', 2, "1", "add 5", "mass");
    private static final String EVERY = Check.format('B', 4, "1 2 3", "loop 25", "every 30");
    private static final String CHASE = Check.format('C', 3, "1 2", "add 0", "chase 60");

    public static void main(String[] args) {
        days();
        racers();
        races();
        chases();
        entries();
        looks();
        counts();
        formatAsItWas();
        CHECK.end();
    }

    private static void days() {
        SkiShots x = new SkiShots();
        CHECK.due("pass(0)", x.pass(0), 0);
        CHECK.due("pass(-1)", x.pass(-1), -1);
        CHECK.due("pass(201)", x.pass(201), -1);
        CHECK.due("pass(3)", x.pass(3), 3);
        CHECK.due("pass(198)", x.pass(198), -1);
        CHECK.due("pass(greatest)", x.pass(Integer.MAX_VALUE), -1);
        CHECK.due("pass(least)", x.pass(Integer.MIN_VALUE), -1);
        CHECK.due("nothing happened", x.count(0), 3);
        CHECK.due("pass(197)", x.pass(197), 200);
        CHECK.due("pass(0) on the last", x.pass(0), 200);
        CHECK.due("pass(1) on the last", x.pass(1), -1);
    }

    private static void racers() {
        SkiShots x = new SkiShots();
        CHECK.due("racer(-1)", x.racer(-1), -1);
        CHECK.due("racer(8)", x.racer(8), -1);
        for (int i = 0; i < 16; i++) {
            CHECK.due("racer " + i, x.racer(i == 0 ? 7 : 0), i);
        }
        CHECK.due("a seventeenth", x.racer(0), -1);
        CHECK.due("count(2)", x.count(2), 16);
    }

    private static void races() {
        SkiShots x = Check.with(1, MASS, EVERY);
        CHECK.due("race(-1)", x.race(-1, -1), -1);
        CHECK.due("race(8)", x.race(8, -1), -1);
        CHECK.due("race(2): no such format", x.race(2, -1), -1);
        CHECK.due("by -2", x.race(0, -2), -1);
        CHECK.due("race(0)", x.race(0, -1), 0);
        CHECK.due("mass by a race", x.race(0, 0), -1);
        CHECK.due("every by a race", x.race(1, 0), -1);
        for (int i = 1; i < 8; i++) {
            CHECK.due("race " + i, x.race(i % 2, -1), i);
        }
        CHECK.due("a ninth", x.race(0, -1), -1);
        CHECK.due("count(3)", x.count(3), 8);
    }

    private static void chases() {
        SkiShots x = Check.with(1, MASS, CHASE);
        CHECK.due("chase by none", x.race(2, -1), -1);
        CHECK.due("chase by itself", x.race(2, 0), -1);
        x.race(0, -1);
        CHECK.due("chase by none", x.race(2, -1), -1);
        CHECK.due("chase by one not ahead", x.race(2, 1), -1);
        CHECK.due("chase", x.race(2, 0), 1);
        CHECK.due("chase by a chase", x.race(2, 1), 2);
        CHECK.due("a second chase by it", x.race(2, 0), 3);
        CHECK.dueLook(x, 0, 4, "-1");
        CHECK.dueLook(x, 1, 4, "0");
        CHECK.dueLook(x, 2, 4, "1");
        CHECK.dueLook(x, 3, 4, "0");
    }

    private static void entries() {
        SkiShots x = Check.with(16, MASS);
        x.race(0, -1);
        x.race(0, -1);
        CHECK.due("no race -1", x.enter(-1, 0), -1);
        CHECK.due("no race 2", x.enter(2, 0), -1);
        CHECK.due("no racer -1", x.enter(0, -1), -1);
        CHECK.due("no racer 16", x.enter(0, 16), -1);
        for (int i = 0; i < 15; i++) {
            CHECK.due("enter " + i, x.enter(0, 15 - i), i + 1);
        }
        CHECK.due("entered already", x.enter(0, 3), -1);
        CHECK.due("the other race", x.enter(1, 3), 1);
        x.tell(1, 3, 3, 0, -1);
        CHECK.due("an event was told there", x.enter(1, 4), -1);
        CHECK.due("none was told here", x.enter(0, 0), 16);
        for (int i = 0; i < 16; i++) {
            CHECK.due("entry " + i, x.entry(0, i), 15 - i);
        }
        CHECK.due("entry 16", x.entry(0, 16), -1);
        CHECK.due("entry -1", x.entry(0, -1), -1);
        CHECK.due("entry of race 2", x.entry(2, 0), -1);
        CHECK.due("entry of race -1", x.entry(-1, 0), -1);
        CHECK.due("the other race's entry", x.entry(1, 0), 3);
        CHECK.due("the other race's second", x.entry(1, 1), -1);
    }

    private static void looks() {
        SkiShots x = Check.with(3, MASS, EVERY);
        CHECK.dueLook(x, 0, 0, "IndexOutOfBoundsException");
        CHECK.dueLook(x, 0, 7, "IndexOutOfBoundsException");
        x.race(1, -1);
        x.enter(0, 2);
        x.enter(0, 1);
        x.tell(0, 2, 0, 1, 5);
        x.tell(0, 2, 0, 1, -1);
        x.tell(0, 2, 0, 9, 5);
        x.race(0, -1);
        CHECK.dueLook(x, 0, 0, "1");
        CHECK.dueLook(x, 0, 1, "4");
        CHECK.dueLook(x, 0, 2, "3");
        CHECK.dueLook(x, 0, 3, "0");
        CHECK.dueLook(x, 0, 4, "-1");
        CHECK.dueLook(x, 0, 5, "2");
        CHECK.dueLook(x, 0, 6, "2");
        CHECK.dueLook(x, 1, 6, "0");
        CHECK.dueLook(x, 0, 7, "NoSuchElementException");
        CHECK.dueLook(x, 0, -1, "NoSuchElementException");
        CHECK.dueLook(x, 2, 0, "IndexOutOfBoundsException");
        CHECK.dueLook(x, -1, 0, "IndexOutOfBoundsException");
        CHECK.dueLook(x, -1, 9, "IndexOutOfBoundsException");
    }

    private static void counts() {
        SkiShots x = Check.with(5, MASS, EVERY);
        x.pass(9);
        x.race(0, -1);
        x.race(1, -1);
        x.race(0, -1);
        x.enter(0, 0);
        for (int i = 0; i < 4; i++) {
            x.tell(0, 0, 0, 1, 7);
        }
        CHECK.due("count(0)", x.count(0), 9);
        CHECK.due("count(1)", x.count(1), 2);
        CHECK.due("count(2)", x.count(2), 5);
        CHECK.due("count(3)", x.count(3), 3);
        CHECK.due("count(4)", x.count(4), 4);
        CHECK.due("count(5)", x.count(5), -1);
        CHECK.due("count(-1)", x.count(-1), -1);
    }

    private static void formatAsItWas() {
        SkiShots x = Check.with(2, MASS);
        x.race(0, -1);
        x.enter(0, 0);
        x.enter(0, 1);
        Check.formats(x, EVERY.replace(" B", " A"));
        x.race(0, -1);
        x.enter(1, 0);
        x.enter(1, 1);
        CHECK.dueLook(x, 0, 1, "2");
        CHECK.dueLook(x, 1, 1, "4");
        CHECK.due("the start as it was", x.time(0, 1, 0, 0), 0);
        CHECK.due("the start of the new text", x.time(1, 1, 0, 0), 300);
        CHECK.due("no lap 3 as it was", x.tell(0, 0, 0, 3, 100), -1);
        CHECK.due("lap 3 of the new text", x.tell(1, 0, 0, 3, 100), 1);
    }
}
