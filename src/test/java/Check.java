import java.nio.charset.StandardCharsets;

/** What the tests share: comparing answers, feeding texts, and the closing exit code. */
final class Check {
    /** One call of the face. */
    interface Call {
        int on(SkiShots x);
    }

    /** Makes the same object each time, by the same calls. */
    interface World {
        SkiShots make();
    }

    private int calls = 0;
    private int wrong = 0;

    void due(String what, int got, int want) {
        calls++;
        if (got != want) {
            wrong++;
            System.out.println(what + " answered " + got + ", due is " + want);
        }
    }

    void that(String what, boolean holds) {
        due(what, holds ? 1 : 0, 1);
    }

    /** The name of the exception that look() throws, or the number it answers. */
    static String look(SkiShots x, int race, int what) {
        try {
            return Integer.toString(x.look(race, what));
        } catch (RuntimeException e) {
            return e.getClass().getSimpleName();
        }
    }

    void dueLook(SkiShots x, int race, int what, String want) {
        String got = look(x, race, what);
        that("look(" + race + ", " + what + ") answered " + got + ", due is " + want + ":", got.equals(want));
    }

    /** The call answers so, and leaves all that can be asked as it is in a twin without the call. */
    void leavesAll(String what, World world, int answer, Call call) {
        SkiShots x = world.make();
        due(what, call.on(x), answer);
        dueTwin(what, x, world.make());
    }

    /** look() throws this, and leaves all as it is in a twin without the call. */
    void lookLeavesAll(World world, int race, int what, String want) {
        SkiShots x = world.make();
        dueLook(x, race, what, want);
        dueTwin("look(" + race + ", " + what + ")", x, world.make());
    }

    private void dueTwin(String what, SkiShots x, SkiShots twin) {
        String got = Picture.of(x);
        String want = Picture.of(twin);
        that(what + " leaves all as it was:\n" + got + "and not\n" + want, got.equals(want));
    }

    /** Feeds the text, filled up to whole calls with zeros behind it; answers its length. */
    static int feed(SkiShots x, String text) {
        byte[] bytes = text.getBytes(StandardCharsets.ISO_8859_1);
        for (int i = 0; i < bytes.length; i += 20) {
            x.feed(four(bytes, i), four(bytes, i + 4), four(bytes, i + 8), four(bytes, i + 12), four(bytes, i + 16));
        }
        return bytes.length;
    }

    static int formats(SkiShots x, String text) {
        return x.formats(feed(x, text));
    }

    private static int four(byte[] bytes, int from) {
        int number = 0;
        for (int i = from; i < from + 4; i++) {
            number = number << 8 | (i < bytes.length ? bytes[i] & 255 : 0);
        }
        return number;
    }

    /** A format's text, written short. */
    static String format(char name, int laps, String shoot, String miss, String start) {
        return "format " + name + "{laps " + laps + ";shoot " + shoot + ";spares 0;miss " + miss
                + ";start " + start + ";}";
    }

    /** A new object with these formats and racers, racer i of nation i modulo 8. */
    static SkiShots with(int racers, String... texts) {
        SkiShots x = new SkiShots();
        formats(x, String.join("", texts));
        for (int i = 0; i < racers; i++) {
            x.racer(i % 8);
        }
        return x;
    }

    /** A race of the name that the racers 0, 1, .. enter in this order. */
    static int raceOf(SkiShots x, char name, int by, int racers) {
        int race = x.race(name - 'A', by);
        for (int i = 0; i < racers; i++) {
            x.enter(race, i);
        }
        return race;
    }

    void end() {
        System.out.println(calls + " answers looked at, " + wrong + " wrong");
        if (wrong > 0 || calls == 0) {
            System.exit(1);
        }
    }
}
