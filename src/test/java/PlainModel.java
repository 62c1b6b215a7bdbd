import java.util.ArrayList;
import java.util.Comparator;
import java.util.HashMap;
import java.util.LinkedHashMap;
import java.util.List;
import java.util.Map;
import java.util.regex.Matcher;
import java.util.regex.Pattern;

/** The document once more, in another way and with the whole library, to compare answers with. */
final class PlainModel {
    record Format(char name, int laps, List<Integer> shoot, int spares, String miss, int cost, String start, int gap) { }

    record Event(int day, int racer, int sort, int k, int v) { }

    record Span(int low, int high) { }

    static final class Race {
        Format format;
        int by;
        List<Integer> entries = new ArrayList<>();
        List<Event> events = new ArrayList<>();
    }

    /** A text's fault, or its formats. */
    static final class Reading {
        int fault = 0;
        int place = -1;
        Map<Character, Format> formats = new LinkedHashMap<>();
    }

    private record Token(String text, int place) { }

    private static final class Stop extends RuntimeException {
        private static final long serialVersionUID = 1L;
        final int fault;
        final int place;

        Stop(int fault, int place) {
            this.fault = fault;
            this.place = place;
        }
    }

    private static final Pattern TOKEN = Pattern.compile("[a-z]+|[0-9]+|[^\\n ]", Pattern.DOTALL);

    StringBuilder tape = new StringBuilder();
    Reading latest = new Reading();
    Map<Character, Format> formats = new LinkedHashMap<>();
    int today = 0;
    List<Integer> nations = new ArrayList<>();
    List<Race> races = new ArrayList<>();
    int told = 0;

    // ---- texts

    private List<Token> tokens;
    private int next;
    private int textLength;

    Reading read(String text) {
        tokens = new ArrayList<>();
        Matcher matcher = TOKEN.matcher(text);
        while (matcher.find()) {
            tokens.add(new Token(matcher.group(), matcher.start()));
        }
        next = 0;
        textLength = text.length();
        Reading reading = new Reading();
        try {
            while (next < tokens.size()) {
                readFormat(reading.formats);
            }
        } catch (Stop stop) {
            reading.fault = stop.fault;
            reading.place = stop.place;
        }
        return reading;
    }

    private Token take(String pattern) {
        if (next >= tokens.size()) {
            throw new Stop(1, textLength);
        }
        Token token = tokens.get(next);
        if (!token.text.matches(pattern)) {
            throw new Stop(1, token.place);
        }
        next++;
        return token;
    }

    private int number(int least, int most) {
        Token token = take("[0-9]+");
        java.math.BigInteger value = new java.math.BigInteger(token.text);
        if (value.compareTo(java.math.BigInteger.valueOf(least)) < 0
                || value.compareTo(java.math.BigInteger.valueOf(most)) > 0) {
            throw new Stop(2, token.place);
        }
        return value.intValue();
    }

    private void readFormat(Map<Character, Format> found) {
        take(found.size() < 8 ? "format" : "nothing at all");
        Token name = take("[A-H]");
        if (found.containsKey(name.text.charAt(0))) {
            throw new Stop(3, name.place);
        }
        take("\\{");
        take("laps");
        int laps = number(1, 6);
        take(";");
        take("shoot");
        List<Integer> shoot = new ArrayList<>();
        do {
            shoot.add(shoot.size() == 4 ? number(1, 0) : number(shoot.isEmpty() ? 1 : shoot.get(shoot.size() - 1) + 1, laps - 1));
        } while (next < tokens.size() && tokens.get(next).text.matches("[0-9]+"));
        take(";");
        take("spares");
        int spares = number(0, 3);
        take(";");
        take("miss");
        String miss = take("loop|add").text;
        int cost = number(0, 600);
        take(";");
        take("start");
        String start = take("mass|every|chase").text;
        int gap = start.equals("mass") ? 0 : start.equals("every") ? number(1, 600) : number(0, 3600);
        take(";");
        take("\\}");
        found.put(name.text.charAt(0), new Format(name.text.charAt(0), laps, shoot, spares, miss, cost, start, gap));
    }

    // ---- calls that change

    int feed(int... numbers) {
        if (tape.length() > 980) {
            return -1;
        }
        for (int number : numbers) {
            tape.append((char) (number >>> 24)).append((char) (number >>> 16 & 255));
            tape.append((char) (number >>> 8 & 255)).append((char) (number & 255));
        }
        return tape.length();
    }

    int formats(int n) {
        if (n < 0 || n > tape.length()) {
            return -2;
        }
        latest = read(tape.substring(0, n));
        tape.setLength(0);
        if (latest.fault != 0) {
            return -1;
        }
        formats = latest.formats;
        return formats.size();
    }

    int fault(int what) {
        return what == 0 ? latest.fault : what == 1 ? latest.place : -1;
    }

    int pass(int days) {
        if (days < 0 || (long) today + days > 200) {
            return -1;
        }
        return today += days;
    }

    int racer(int nation) {
        if (nation < 0 || nation > 7 || nations.size() == 16) {
            return -1;
        }
        nations.add(nation);
        return nations.size() - 1;
    }

    int race(int name, int by) {
        Format format = name < 0 || name > 7 ? null : formats.get((char) ('A' + name));
        if (format == null || races.size() == 8) {
            return -1;
        }
        if (format.start.equals("chase") ? by < 0 || by >= races.size() : by != -1) {
            return -1;
        }
        Race race = new Race();
        race.format = format;
        race.by = by;
        races.add(race);
        return races.size() - 1;
    }

    private boolean no(int race) {
        return race < 0 || race >= races.size();
    }

    private boolean no(int race, int racer) {
        return no(race) || !races.get(race).entries.contains(racer);
    }

    private boolean noDay(int day) {
        return day < 0 || day > today;
    }

    int enter(int race, int racer) {
        if (no(race) || racer < 0 || racer >= nations.size() || !no(race, racer) || !races.get(race).events.isEmpty()) {
            return -1;
        }
        races.get(race).entries.add(racer);
        return races.get(race).entries.size();
    }

    int tell(int race, int racer, int sort, int k, int v) {
        if (no(race, racer) || sort < 0 || sort > 3 || told == 400) {
            return -1;
        }
        Format format = races.get(race).format;
        int[] least = {1, 0, 0, 0};
        int[] most = {format.laps, format.shoot.size() - 1, format.shoot.size() - 1, 0};
        int[] greatest = {200000, 31, 9, 1};
        if (k < least[sort] || k > most[sort] || v < -1 || v > greatest[sort]) {
            return -1;
        }
        races.get(race).events.add(new Event(today, racer, sort, k, v));
        return ++told;
    }

    // ---- calls that look

    String look(int race, int what) {
        if (no(race)) {
            return "IndexOutOfBoundsException";
        }
        Race r = races.get(race);
        if (what < 0 || what > 6) {
            return "NoSuchElementException";
        }
        int[] answers = {r.format.name - 'A', r.format.laps, r.format.shoot.size(), r.format.spares, r.by,
            r.entries.size(), r.events.size()};
        return Integer.toString(answers[what]);
    }

    int entry(int race, int i) {
        return no(race) || i < 0 || i >= races.get(race).entries.size() ? -1 : races.get(race).entries.get(i);
    }

    private Integer known(int race, int racer, int sort, int k, int day) {
        Integer value = null;
        for (Event e : races.get(race).events) {
            if (e.day <= day && e.racer == racer && e.sort == sort && e.k == k) {
                value = e.v == -1 ? null : Integer.valueOf(e.v);
            }
        }
        return value;
    }

    private boolean struck(int race, int racer, int day) {
        Integer value = known(race, racer, 3, 0, day);
        return value != null && value == 1;
    }

    /** The starts of all entries of a race that have one. */
    private Map<Integer, Integer> starts(int race, int day) {
        Race r = races.get(race);
        Map<Integer, Integer> starts = new HashMap<>();
        Map<Integer, Span> before = r.by < 0 ? Map.of() : spans(r.by, day);
        int least = before.values().stream().mapToInt(Span::low).min().orElse(0);
        for (int i = 0; i < r.entries.size(); i++) {
            int racer = r.entries.get(i);
            switch (r.format.start) {
                case "mass" -> starts.put(racer, 0);
                case "every" -> starts.put(racer, i * r.format.gap * 10);
                default -> {
                    if (before.containsKey(racer)) {
                        int behind = before.get(racer).low - least;
                        starts.put(racer, Math.min(behind - behind % 10, r.format.gap * 10));
                    }
                }
            }
        }
        return starts;
    }

    /** Goes through every number of misses and of loops that can be. */
    private Span penalty(int race, int racer, int k, int day) {
        Format format = races.get(race).format;
        Integer hits = known(race, racer, 1, k, day);
        Integer loops = known(race, racer, 2, k, day);
        int low = Integer.MAX_VALUE;
        int high = 0;
        for (int misses = 0; misses <= 5; misses++) {
            for (int run = 0; run <= 9; run++) {
                boolean canBe = (hits == null || 5 - Integer.toBinaryString(hits).replace("0", "").length() == misses)
                        && (loops == null || loops == run);
                if (canBe) {
                    int paid = format.miss.equals("add") ? misses : Math.max(misses - run, 0);
                    low = Math.min(low, paid * format.cost * 10);
                    high = Math.max(high, paid * format.cost * 10);
                }
            }
        }
        return new Span(low, high);
    }

    /** The times of all entries of a race that have one. */
    private Map<Integer, Span> spans(int race, int day) {
        Race r = races.get(race);
        Map<Integer, Span> spans = new LinkedHashMap<>();
        Map<Integer, Integer> starts = starts(race, day);
        for (int racer : r.entries) {
            Integer end = known(race, racer, 0, r.format.laps, day);
            Integer start = starts.get(racer);
            if (struck(race, racer, day) || start == null || end == null || end < start) {
                continue;
            }
            int low = end - start;
            int high = low;
            for (int k = 0; k < r.format.shoot.size(); k++) {
                Span penalty = penalty(race, racer, k, day);
                low += penalty.low;
                high += penalty.high;
            }
            spans.put(racer, new Span(low, high));
        }
        return spans;
    }

    private static int last(Map<Integer, Span> spans, int racer) {
        return 1 + (int) spans.entrySet().stream()
                .filter(e -> e.getKey() != racer && e.getValue().low < spans.get(racer).high).count();
    }

    private static int first(Map<Integer, Span> spans, int racer) {
        return 1 + (int) spans.entrySet().stream()
                .filter(e -> e.getKey() != racer && e.getValue().high < spans.get(racer).low).count();
    }

    int time(int race, int racer, int day, int what) {
        if (no(race, racer) || noDay(day) || what < 0 || what > 7) {
            return -2;
        }
        if (what == 0) {
            return starts(race, day).getOrDefault(racer, -1);
        }
        if (what == 5) {
            return struck(race, racer, day) ? 1 : 0;
        }
        if (what >= 6) {
            int sum = 0;
            for (int k = 0; k < races.get(race).format.shoot.size(); k++) {
                Integer hits = known(race, racer, 1, k, day);
                sum += hits != null ? 5 - Integer.bitCount(hits) : what == 6 ? 0 : 5;
            }
            return sum;
        }
        Map<Integer, Span> spans = spans(race, day);
        Span span = spans.get(racer);
        if (span == null) {
            return -1;
        }
        return what == 1 ? span.low : what == 2 ? span.high : what == 3 ? first(spans, racer) : last(spans, racer);
    }

    int split(int race, int racer, int lap, int day) {
        if (no(race, racer) || noDay(day) || lap < 1 || lap > races.get(race).format.laps) {
            return -2;
        }
        Integer end = known(race, racer, 0, lap, day);
        Integer start = starts(race, day).get(racer);
        return end == null || start == null || end < start ? -1 : end - start;
    }

    int order(int race, int day, int k) {
        if (no(race) || noDay(day)) {
            return -1;
        }
        Map<Integer, Span> spans = spans(race, day);
        List<Integer> racers = new ArrayList<>(spans.keySet());
        racers.sort(Comparator.comparingInt(racer -> spans.get(racer).low));
        return k < 0 || k >= racers.size() ? -1 : racers.get(k);
    }

    private int[] cup(int day) {
        int[] points = new int[nations.size()];
        for (int race = 0; race < races.size(); race++) {
            Map<Integer, Span> spans = spans(race, day);
            for (int racer : spans.keySet()) {
                points[racer] += Math.max(21 - last(spans, racer), 0);
            }
        }
        return points;
    }

    int points(int racer, int day) {
        return racer < 0 || racer >= nations.size() || noDay(day) ? -1 : cup(day)[racer];
    }

    int standing(int racer, int day) {
        if (racer < 0 || racer >= nations.size() || noDay(day)) {
            return -1;
        }
        int[] points = cup(day);
        int place = 1;
        for (int other : points) {
            place += other > points[racer] ? 1 : 0;
        }
        return place;
    }

    int starters(int nation, int day) {
        if (nation < 0 || nation > 7 || noDay(day)) {
            return -1;
        }
        int starters = 2;
        for (int racer = 0; racer < nations.size(); racer++) {
            boolean counts = nations.get(racer) == nation && points(racer, day) > 0 && standing(racer, day) <= 5;
            starters += counts && starters < 4 ? 1 : 0;
        }
        return starters;
    }

    int count(int what) {
        int[] answers = {today, formats.size(), nations.size(), races.size(), told};
        return what < 0 || what >= answers.length ? -1 : answers[what];
    }
}
