/** What can be asked of an object, on day 0 and today, as one text; the object is used up by it. */
final class Picture {
    private static final int NAMES = 8;
    private static final int NATIONS = 8;
    private static final int MARKS = 0x23232323;

    private final SkiShots x;
    private final int today;
    private final int racers;
    private final int races;
    private final StringBuilder all = new StringBuilder();

    private Picture(SkiShots x) {
        this.x = x;
        today = x.count(0);
        racers = x.count(2);
        races = x.count(3);
    }

    /** Few calls, since an object that is full of events has some hundred left. */
    static String of(SkiShots x) {
        Picture picture = new Picture(x);
        picture.counts();
        for (int race = 0; race < picture.races; race++) {
            picture.race(race);
        }
        picture.day(0);
        if (picture.today > 0) {
            picture.day(picture.today);
        }
        picture.formats();
        picture.tape();
        return picture.all.toString();
    }

    private void row(String name) {
        all.append('\n').append(name).append(':');
    }

    private void put(int answer) {
        all.append(' ').append(answer);
    }

    private void counts() {
        row("counts");
        put(today);
        put(x.count(1));
        put(racers);
        put(races);
        put(x.count(4));
        row("fault");
        put(x.fault(0));
        put(x.fault(1));
    }

    private void race(int race) {
        row("race " + race);
        for (int what = 0; what <= 6; what++) {
            put(x.look(race, what));
        }
    }

    private void day(int day) {
        for (int race = 0; race < races; race++) {
            raceOn(race, day);
        }
        row("cup on " + day);
        for (int racer = 0; racer < racers; racer++) {
            put(x.points(racer, day));
            put(x.standing(racer, day));
        }
        row("starters on " + day);
        for (int nation = 0; nation < NATIONS; nation++) {
            put(x.starters(nation, day));
        }
    }

    private void raceOn(int race, int day) {
        int entries = x.look(race, 5);
        int laps = x.look(race, 1);
        for (int i = 0; i < entries; i++) {
            int racer = x.entry(race, i);
            row("race " + race + " racer " + racer + " on " + day);
            for (int what = 0; what <= 7; what++) {
                put(x.time(race, racer, day, what));
            }
            for (int lap = 1; lap <= laps; lap++) {
                put(x.split(race, racer, lap, day));
            }
        }
        row("no more, then the order of " + race + " on " + day);
        put(x.entry(race, entries));
        for (int k = 0; k <= entries; k++) {
            put(x.order(race, day, k));
        }
    }

    /** Formats show only in the races that they make. */
    private void formats() {
        row("formats");
        for (int name = 0; name < NAMES; name++) {
            newRace(x.race(name, SkiShots.NONE));
            newRace(x.race(name, 0));
        }
    }

    private void newRace(int race) {
        put(race);
        for (int what = 0; race >= 0 && what <= 3; what++) {
            put(x.look(race, what));
        }
    }

    /** The tape's text shows in its fault, at the marks behind it if it is sound. */
    private void tape() {
        row("tape");
        int length = x.feed(MARKS, MARKS, MARKS, MARKS, MARKS);
        put(length);
        put(x.formats(length == SkiShots.NONE ? 1000 : length));
        put(x.fault(0));
        put(x.fault(1));
        all.append('\n');
    }
}
