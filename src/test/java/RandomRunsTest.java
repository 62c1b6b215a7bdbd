import java.util.Random;

/** Runs of up to 512 calls, the same ones every time, against the plain model. */
public final class RandomRunsTest {
    private static final Check CHECK = new Check();
    private static final int RUNS = 1500;
    private static final String[] WORDS = {
        "format", "laps", "shoot", "spares", "miss", "loop", "add", "start", "mass", "every", "chase",
        "{", "}", ";", "A", "B", "H", "I", "0", "1", "2", "7", "600", "601", "3601", "x", "#", "\n", " ",
    };

    private final Random random;
    private final SkiShots x = new SkiShots();
    private final PlainModel model = new PlainModel();
    private final String run;
    private int calls = 0;

    private RandomRunsTest(int seed) {
        random = new Random(seed);
        run = "run " + seed + ": ";
    }

    public static void main(String[] args) {
        for (int seed = 0; seed < RUNS; seed++) {
            new RandomRunsTest(seed).go();
        }
        CHECK.end();
    }

    private void due(String call, int got, int want) {
        calls++;
        CHECK.due(run + call, got, want);
    }

    private void go() {
        boolean wild = random.nextInt(4) == 0;
        tellFormats(wild);
        int racers = random.nextInt(17);
        for (int i = 0; i < racers; i++) {
            callRacer(wild);
        }
        for (int i = 0; i < 6 && !wild; i++) {
            callRace(false);
        }
        for (int i = 0; i < 60 && !wild; i++) {
            callEnter(false);
        }
        while (calls < 500) {
            anyCall(wild || random.nextInt(12) == 0);
        }
    }

    private int odd() {
        int[] odd = {-2, -1, 0, 1, 7, 8, 16, 31, 400, Integer.MAX_VALUE, Integer.MIN_VALUE, random.nextInt()};
        return odd[random.nextInt(odd.length)];
    }

    private int some(int below, boolean wild) {
        return wild && random.nextInt(3) == 0 ? odd() : random.nextInt(below);
    }

    private String text(boolean wild) {
        StringBuilder text = new StringBuilder();
        int count = 1 + random.nextInt(wild ? 9 : 8);
        for (int i = 0; i < count; i++) {
            char name = (char) ('A' + (random.nextInt(20) == 0 ? random.nextInt(9) : i));
            String blank = random.nextInt(3) == 0 ? " \n" : "";
            int laps = 2 + random.nextInt(5);
            text.append("format ").append(name).append(blank).append("{laps ").append(laps).append(";shoot");
            int least = 1;
            do {
                int lap = least + random.nextInt(laps - least);
                text.append(' ').append(lap);
                least = lap + 1;
            } while (least < laps && random.nextBoolean());
            String[] starts = {"mass", "every " + (1 + random.nextInt(600)), "chase " + random.nextInt(3601),
                "chase " + random.nextInt(60)};
            text.append(";spares ").append(random.nextInt(4)).append(blank).append(";miss ")
                    .append(random.nextBoolean() ? "loop " : "add ").append(random.nextInt(3) * 30).append(";start ")
                    .append(starts[i == 0 ? 0 : random.nextInt(4)]).append(";}");
        }
        for (int i = random.nextInt(wild ? 4 : 1); i > 0; i--) {
            spoil(text);
        }
        return text.substring(0, Math.min(text.length(), 1000));
    }

    private void spoil(StringBuilder text) {
        int at = random.nextInt(text.length() + 1);
        int until = Math.min(text.length(), at + random.nextInt(4));
        String word = random.nextInt(6) == 0 ? String.valueOf((char) random.nextInt(256)) : WORDS[random.nextInt(WORDS.length)];
        text.replace(at, until, word);
    }

    private void tellFormats(boolean wild) {
        String text = text(wild);
        for (int i = 0; i < text.length(); i += 20) {
            int[] n = new int[5];
            for (int j = 0; j < 20; j++) {
                n[j / 4] = n[j / 4] << 8 | (i + j < text.length() ? text.charAt(i + j) : wild ? random.nextInt(256) : 32);
            }
            due("feed", x.feed(n[0], n[1], n[2], n[3], n[4]), model.feed(n));
        }
        int length = wild ? text.length() - random.nextInt(3) * random.nextInt(9) : text.length();
        due("formats(" + length + ") of " + text, x.formats(length), model.formats(length));
        callFault(false);
        callFault(false);
    }

    private void callFault(boolean wild) {
        int what = some(2, wild);
        due("fault(" + what + ")", x.fault(what), model.fault(what));
    }

    private void callRacer(boolean wild) {
        int nation = some(8, wild);
        due("racer(" + nation + ")", x.racer(nation), model.racer(nation));
    }

    private void callRace(boolean wild) {
        int name = some(8, wild);
        int by = wild || random.nextInt(3) > 0 ? some(8, wild) : -1;
        due("race(" + name + ", " + by + ")", x.race(name, by), model.race(name, by));
    }

    private void callEnter(boolean wild) {
        int race = some(8, wild);
        int racer = some(16, wild);
        due("enter(" + race + ", " + racer + ")", x.enter(race, racer), model.enter(race, racer));
    }

    private void callTell(boolean wild) {
        int race = some(Math.max(1, model.races.size()), wild);
        int racer = random.nextBoolean() ? some(16, wild) : model.entry(race, random.nextInt(16));
        int sort = random.nextInt(6) == 0 ? some(4, wild) : random.nextInt(3);
        int[] most = {200000, 31, 9, 1};
        boolean known = sort >= 0 && sort < 4;
        int laps = race >= 0 && race < model.races.size() ? model.races.get(race).format.laps() : 1;
        int k = sort == 0 && random.nextInt(4) > 0 ? laps : some(4, wild) * (sort == 3 ? 0 : 1);
        int v = known ? random.nextInt(most[sort] + 1) : 0;
        v = sort == 0 && random.nextInt(4) > 0 ? 5000 + random.nextInt(2000) : v;
        v = random.nextInt(12) == 0 ? -1 : wild && random.nextInt(5) == 0 ? odd() : v;
        String call = "tell(" + race + ", " + racer + ", " + sort + ", " + k + ", " + v + ")";
        due(call, x.tell(race, racer, sort, k, v), model.tell(race, racer, sort, k, v));
    }

    private void callTime(boolean wild) {
        int race = some(8, wild);
        int racer = model.entry(race, random.nextInt(16));
        racer = wild && random.nextBoolean() ? some(16, true) : racer;
        int day = some(model.today + 1, wild);
        int what = some(8, wild);
        String call = "time(" + race + ", " + racer + ", " + day + ", " + what + ")";
        due(call, x.time(race, racer, day, what), model.time(race, racer, day, what));
    }

    private void callSplit(boolean wild) {
        int race = some(8, wild);
        int racer = model.entry(race, random.nextInt(16));
        int day = some(model.today + 1, wild);
        int lap = some(7, wild);
        String call = "split(" + race + ", " + racer + ", " + lap + ", " + day + ")";
        due(call, x.split(race, racer, lap, day), model.split(race, racer, lap, day));
    }

    private void callLook(boolean wild) {
        int race = some(8, wild);
        int what = some(8, wild);
        String got = Check.look(x, race, what);
        String want = model.look(race, what);
        calls++;
        CHECK.that(run + "look(" + race + ", " + what + ") " + got + " not " + want, got.equals(want));
    }

    private void callOrderOrEntry(boolean wild) {
        int race = some(8, wild);
        int day = some(model.today + 1, wild);
        int k = some(16, wild);
        due("order(" + race + ", " + day + ", " + k + ")", x.order(race, day, k), model.order(race, day, k));
        due("entry(" + race + ", " + k + ")", x.entry(race, k), model.entry(race, k));
    }

    private void callCup(boolean wild) {
        int racer = some(16, wild);
        int day = some(model.today + 1, wild);
        int nation = some(8, wild);
        due("points(" + racer + ", " + day + ")", x.points(racer, day), model.points(racer, day));
        due("standing(" + racer + ", " + day + ")", x.standing(racer, day), model.standing(racer, day));
        due("starters(" + nation + ", " + day + ")", x.starters(nation, day), model.starters(nation, day));
    }

    private void callPass(boolean wild) {
        int days = some(wild ? 300 : 3, wild);
        due("pass(" + days + ")", x.pass(days), model.pass(days));
    }

    private void anyCall(boolean wild) {
        int which = random.nextInt(40);
        if (which < 22) {
            callTell(wild);
        } else if (which < 28) {
            callTime(wild);
        } else if (which < 30) {
            callSplit(wild);
        } else if (which < 31) {
            callOrderOrEntry(wild);
        } else if (which < 32) {
            callCup(wild);
        } else if (which < 33) {
            callLook(wild);
        } else if (which < 34) {
            callPass(wild && random.nextInt(4) == 0);
        } else if (which < 35) {
            callRace(wild);
        } else if (which < 36) {
            callEnter(wild);
        } else if (which < 37) {
            callRacer(wild);
        } else if (which < 38 && wild && calls < 400) {
            tellFormats(true);
        } else {
            int what = some(5, wild);
            due("count(" + what + ")", x.count(what), model.count(what));
        }
    }
}
