import java.util.NoSuchElementException;

/** Days of races on skis with shots between, as far as they are known on each day. */
public final class SkiShots {
    public static final int NONE = -1;

    private static final int NO_SUCH = -2;
    private static final int MOST_TAPE_BYTES = 1000;
    private static final int FED_BYTES = 20;
    private static final int MOST_FORMATS = 8;
    private static final int MOST_SHOOTINGS = 4;
    private static final int MOST_RACERS = 16;
    private static final int MOST_RACES = 8;
    private static final int MOST_EVENTS = 400;
    private static final int NATIONS = 8;
    private static final int LAST_DAY = 200;
    private static final int TENTHS = 10;
    private static final int TARGETS = 5;
    private static final int MOST_LOOPS = 9;

    private static final int EVENT_LAP = 0;
    private static final int EVENT_TARGETS = 1;
    private static final int EVENT_LOOPS = 2;
    private static final int EVENT_STRUCK = 3;

    private static final int START_MASS = 0;
    private static final int START_EVERY = 1;
    private static final int START_CHASE = 2;

    private static final int FAULT_TOKEN = 1;
    private static final int FAULT_NUMBER = 2;
    private static final int FAULT_NAME = 3;

    private static final int TOKEN_END = 0;
    private static final int TOKEN_WORD = 1;
    private static final int TOKEN_NUMBER = 2;
    private static final int TOKEN_SIGN = 3;
    private static final int TOKEN_BLANK = 4;

    private static final int POINTS_ABOVE_FIRST = 21;
    private static final int GOOD_STANDING = 5;
    private static final int LEAST_STARTERS = 2;
    private static final int MOST_STARTERS = 4;

    private final byte[] tape;
    private int tapeLength;
    private Format[] formatsByName;
    private int formatCount;
    private int latestFault;
    private int latestFaultPlace;
    private int today;
    private final int[] nations;
    private int racerCount;
    private final Race[] races;
    private int raceCount;
    private int eventCount;
    private final int[] cup;

    public SkiShots() {
        tape = new byte[MOST_TAPE_BYTES];
        formatsByName = new Format[MOST_FORMATS];
        latestFaultPlace = NONE;
        nations = new int[MOST_RACERS];
        races = new Race[MOST_RACES];
        cup = new int[MOST_RACERS];
    }

    public int feed(int a, int b, int c, int d, int e) {
        if (tapeLength + FED_BYTES > MOST_TAPE_BYTES) {
            return NONE;
        }
        putOnTape(a);
        putOnTape(b);
        putOnTape(c);
        putOnTape(d);
        putOnTape(e);
        return tapeLength;
    }

    private void putOnTape(int number) {
        for (int shift = 24; shift >= 0 && tapeLength < MOST_TAPE_BYTES; shift -= 8) {
            tape[tapeLength] = (byte) (number >> shift);
            tapeLength++;
        }
    }

    public int formats(int n) {
        if (n < 0 || n > tapeLength) {
            return NO_SUCH;
        }
        Reader reader = new Reader(tape, n);
        boolean sound = reader.readFormats();
        tapeLength = 0;
        latestFault = reader.fault;
        latestFaultPlace = reader.faultPlace;
        if (!sound) {
            return NONE;
        }
        formatsByName = reader.found;
        formatCount = reader.foundCount;
        return formatCount;
    }

    public int fault(int what) {
        switch (what) {
            case 0:
                return latestFault;
            case 1:
                return latestFaultPlace;
            default:
                return NONE;
        }
    }

    public int pass(int days) {
        if (days < 0 || days > LAST_DAY - today) {
            return NONE;
        }
        today += days;
        return today;
    }

    public int racer(int nation) {
        if (!isNation(nation) || racerCount >= MOST_RACERS) {
            return NONE;
        }
        nations[racerCount] = nation;
        racerCount++;
        return racerCount - 1;
    }

    public int race(int name, int by) {
        if (name < 0 || name >= MOST_FORMATS || raceCount >= MOST_RACES) {
            return NONE;
        }
        Format format = formatsByName[name];
        if (format == null) {
            return NONE;
        }
        Race ahead = raceAt(by);
        boolean fits = format.startSort == START_CHASE ? ahead != null : by == NONE;
        if (!fits) {
            return NONE;
        }
        races[raceCount] = new Race(format, ahead, by);
        raceCount++;
        return raceCount - 1;
    }

    public int enter(int race, int racer) {
        Race where = raceAt(race);
        if (where == null || !isRacer(racer) || where.told > 0 || where.entryOf(racer) != null) {
            return NONE;
        }
        where.add(racer);
        return where.entryCount;
    }

    public int tell(int race, int racer, int sort, int k, int v) {
        Race where = raceAt(race);
        if (where == null || eventCount >= MOST_EVENTS) {
            return NONE;
        }
        Entry who = where.entryOf(racer);
        if (who == null || !where.format.hasEvent(sort, k) || !isValue(sort, v)) {
            return NONE;
        }
        who.latest = new Event(today, sort, k, v, who.latest);
        where.told++;
        eventCount++;
        return eventCount;
    }

    public int look(int race, int what) throws IndexOutOfBoundsException, NoSuchElementException {
        Race where = raceAt(race);
        if (where == null) {
            throw new IndexOutOfBoundsException("no such race");
        }
        switch (what) {
            case 0:
                return where.format.name;
            case 1:
                return where.format.laps;
            case 2:
                return where.format.shootings;
            case 3:
                return where.format.spares;
            case 4:
                return where.byNumber;
            case 5:
                return where.entryCount;
            case 6:
                return where.told;
            default:
                throw new NoSuchElementException("no such what");
        }
    }

    public int entry(int race, int i) {
        Race where = raceAt(race);
        if (where == null || i < 0 || i >= where.entryCount) {
            return NONE;
        }
        return where.entries[i].racer;
    }

    public int time(int race, int racer, int day, int what) {
        Race where = raceAt(race);
        if (where == null || !isDay(day)) {
            return NO_SUCH;
        }
        Entry who = where.entryOf(racer);
        if (who == null) {
            return NO_SUCH;
        }
        workOut(race + 1, day);
        switch (what) {
            case 0:
                return who.start;
            case 1:
                return who.low;
            case 2:
                return who.high;
            case 3:
                return where.firstPlace(who);
            case 4:
                return where.lastPlace(who);
            case 5:
                return who.struck ? 1 : 0;
            case 6:
                return who.fewestMisses;
            case 7:
                return who.mostMisses;
            default:
                return NO_SUCH;
        }
    }

    public int split(int race, int racer, int lap, int day) {
        Race where = raceAt(race);
        if (where == null || !isDay(day) || !where.format.hasEvent(EVENT_LAP, lap)) {
            return NO_SUCH;
        }
        Entry who = where.entryOf(racer);
        if (who == null) {
            return NO_SUCH;
        }
        workOut(race + 1, day);
        return who.sinceStart(who.known(EVENT_LAP, lap, day));
    }

    public int order(int race, int day, int k) {
        Race where = raceAt(race);
        if (where == null || !isDay(day)) {
            return NONE;
        }
        workOut(race + 1, day);
        for (int i = 0; i < where.entryCount; i++) {
            if (where.entries[i].hasTime() && where.aheadInOrder(i) == k) {
                return where.entries[i].racer;
            }
        }
        return NONE;
    }

    public int points(int racer, int day) {
        if (!isRacer(racer) || !isDay(day)) {
            return NONE;
        }
        addUpCup(day);
        return cup[racer];
    }

    public int standing(int racer, int day) {
        if (!isRacer(racer) || !isDay(day)) {
            return NONE;
        }
        addUpCup(day);
        return standingInCup(racer);
    }

    public int starters(int nation, int day) {
        if (!isNation(nation) || !isDay(day)) {
            return NONE;
        }
        addUpCup(day);
        int starters = LEAST_STARTERS;
        for (int i = 0; i < racerCount; i++) {
            if (nations[i] == nation && cup[i] > 0 && standingInCup(i) <= GOOD_STANDING) {
                starters++;
            }
        }
        return Math.min(starters, MOST_STARTERS);
    }

    public int count(int what) {
        switch (what) {
            case 0:
                return today;
            case 1:
                return formatCount;
            case 2:
                return racerCount;
            case 3:
                return raceCount;
            case 4:
                return eventCount;
            default:
                return NONE;
        }
    }

    private Race raceAt(int number) {
        return number >= 0 && number < raceCount ? races[number] : null;
    }

    private boolean isRacer(int number) {
        return number >= 0 && number < racerCount;
    }

    private boolean isDay(int day) {
        return day >= 0 && day <= today;
    }

    private static boolean isNation(int nation) {
        return nation >= 0 && nation < NATIONS;
    }

    private static boolean isValue(int sort, int v) {
        switch (sort) {
            case EVENT_LAP:
                return v >= NONE && v <= 200000;
            case EVENT_TARGETS:
                return v >= NONE && v <= 31;
            case EVENT_LOOPS:
                return v >= NONE && v <= MOST_LOOPS;
            case EVENT_STRUCK:
                return v >= NONE && v <= 1;
            default:
                return false;
        }
    }

    /** A chase starts by a race with a lower number, so going up finds that one worked out. */
    private void workOut(int howMany, int day) {
        for (int i = 0; i < howMany && i < raceCount; i++) {
            races[i].workOut(day);
        }
    }

    private void addUpCup(int day) {
        workOut(raceCount, day);
        for (int i = 0; i < racerCount; i++) {
            cup[i] = 0;
        }
        for (int i = 0; i < raceCount; i++) {
            addToCup(races[i]);
        }
    }

    private void addToCup(Race race) {
        for (int i = 0; i < race.entryCount; i++) {
            Entry who = race.entries[i];
            if (who.hasTime()) {
                cup[who.racer] += Math.max(0, POINTS_ABOVE_FIRST - race.lastPlace(who));
            }
        }
    }

    private int standingInCup(int racer) {
        int place = 1;
        for (int i = 0; i < racerCount; i++) {
            if (cup[i] > cup[racer]) {
                place++;
            }
        }
        return place;
    }

    /** What a text says of a NAME; it never changes once read, so races may share it. */
    private static final class Format {
        final int name;
        int laps;
        int shootings;
        int spares;
        boolean loops;
        int missSeconds;
        int startSort;
        int startSeconds;

        Format(int name) {
            this.name = name;
        }

        boolean hasEvent(int sort, int k) {
            switch (sort) {
                case EVENT_LAP:
                    return k >= 1 && k <= laps;
                case EVENT_TARGETS:
                case EVENT_LOOPS:
                    return k >= 0 && k < shootings;
                case EVENT_STRUCK:
                    return k == 0;
                default:
                    return false;
            }
        }
    }

    /** An entry's events hang in a chain, the latest at its head. */
    private static final class Event {
        final int day;
        final int sort;
        final int k;
        final int v;
        final Event before;

        Event(int day, int sort, int k, int v, Event before) {
            this.day = day;
            this.sort = sort;
            this.k = k;
            this.v = v;
            this.before = before;
        }
    }

    /** A racer in a race; all but the racer and the events is as last worked out for a day. */
    private static final class Entry {
        final int racer;
        Event latest;
        int start;
        int low;
        int high;
        boolean struck;
        int fewestMisses;
        int mostMisses;
        int leastPenalty;
        int greatestPenalty;

        Entry(int racer) {
            this.racer = racer;
        }

        int known(int sort, int k, int day) {
            for (Event e = latest; e != null; e = e.before) {
                if (e.day <= day && e.sort == sort && e.k == k) {
                    return e.v;
                }
            }
            return NONE;
        }

        int sinceStart(int end) {
            return start == NONE || end == NONE || end < start ? NONE : end - start;
        }

        boolean hasTime() {
            return low != NONE;
        }

        void workOut(Format format, int begin, int day) {
            start = begin;
            struck = known(EVENT_STRUCK, 0, day) == 1;
            fewestMisses = 0;
            mostMisses = 0;
            leastPenalty = 0;
            greatestPenalty = 0;
            for (int k = 0; k < format.shootings; k++) {
                addShooting(format, k, day);
            }
            int skied = struck ? NONE : sinceStart(known(EVENT_LAP, format.laps, day));
            low = skied == NONE ? NONE : skied + leastPenalty;
            high = skied == NONE ? NONE : skied + greatestPenalty;
        }

        void addShooting(Format format, int k, int day) {
            int hits = known(EVENT_TARGETS, k, day);
            int fewest = hits == NONE ? 0 : TARGETS - Integer.bitCount(hits);
            int most = hits == NONE ? TARGETS : fewest;
            // Loops pay for misses only where a miss costs a loop.
            int run = format.loops ? known(EVENT_LOOPS, k, day) : 0;
            int fewestRun = run == NONE ? 0 : run;
            int mostRun = run == NONE ? MOST_LOOPS : run;
            int each = format.missSeconds * TENTHS;
            fewestMisses += fewest;
            mostMisses += most;
            leastPenalty += Math.max(0, fewest - mostRun) * each;
            greatestPenalty += Math.max(0, most - fewestRun) * each;
        }
    }

    private static final class Race {
        final Format format;
        final Race by;
        final int byNumber;
        final Entry[] entries;
        int entryCount;
        int told;
        int leastLow;

        Race(Format format, Race by, int byNumber) {
            this.format = format;
            this.by = by;
            this.byNumber = byNumber;
            entries = new Entry[MOST_RACERS];
        }

        void add(int racer) {
            if (entryCount < MOST_RACERS) {
                entries[entryCount] = new Entry(racer);
                entryCount++;
            }
        }

        Entry entryOf(int racer) {
            for (int i = 0; i < entryCount; i++) {
                if (entries[i].racer == racer) {
                    return entries[i];
                }
            }
            return null;
        }

        /** The race that this one starts by has to be worked out for the day already. */
        void workOut(int day) {
            leastLow = NONE;
            for (int i = 0; i < entryCount; i++) {
                Entry who = entries[i];
                who.workOut(format, startOf(i), day);
                if (who.hasTime() && (leastLow == NONE || who.low < leastLow)) {
                    leastLow = who.low;
                }
            }
        }

        int startOf(int i) {
            switch (format.startSort) {
                case START_MASS:
                    return 0;
                case START_EVERY:
                    return format.startSeconds * TENTHS * i;
                default:
                    return chaseStart(entries[i].racer);
            }
        }

        int chaseStart(int racer) {
            Entry there = by == null ? null : by.entryOf(racer);
            if (there == null || !there.hasTime()) {
                return NONE;
            }
            int wholeSeconds = (there.low - by.leastLow) / TENTHS;
            return Math.min(wholeSeconds, format.startSeconds) * TENTHS;
        }

        int firstPlace(Entry who) {
            if (!who.hasTime()) {
                return NONE;
            }
            int place = 1;
            for (int i = 0; i < entryCount; i++) {
                Entry other = entries[i];
                if (other != who && other.hasTime() && other.high < who.low) {
                    place++;
                }
            }
            return place;
        }

        int lastPlace(Entry who) {
            if (!who.hasTime()) {
                return NONE;
            }
            int place = 1;
            for (int i = 0; i < entryCount; i++) {
                Entry other = entries[i];
                if (other != who && other.hasTime() && other.low < who.high) {
                    place++;
                }
            }
            return place;
        }

        int aheadInOrder(int own) {
            int ahead = 0;
            for (int i = 0; i < entryCount; i++) {
                int low = entries[i].low;
                if (low != NONE && (low < entries[own].low || low == entries[own].low && i < own)) {
                    ahead++;
                }
            }
            return ahead;
        }
    }

    /** Reads a text of formats token by token, up to its first fault. */
    private static final class Reader {
        final byte[] text;
        final int length;
        final Format[] found;
        int foundCount;
        int fault;
        int faultPlace;
        int sort;
        int place;
        int behind;
        int number;

        Reader(byte[] text, int length) {
            this.text = text;
            this.length = Math.min(length, text.length);
            found = new Format[MOST_FORMATS];
            faultPlace = NONE;
        }

        boolean readFormats() {
            step();
            for (int i = 0; i < MOST_FORMATS && sort != TOKEN_END; i++) {
                if (!readFormat()) {
                    return false;
                }
            }
            return sort == TOKEN_END || fail(FAULT_TOKEN);
        }

        boolean readFormat() {
            if (!readWord("format")) {
                return false;
            }
            int name = sort == TOKEN_SIGN ? text[place] - 'A' : NONE;
            if (name < 0 || name >= MOST_FORMATS) {
                return fail(FAULT_TOKEN);
            }
            if (found[name] != null) {
                return fail(FAULT_NAME);
            }
            step();
            Format format = new Format(name);
            found[name] = format;
            foundCount++;
            return readSign('{') && readLaps(format) && readSign(';')
                    && readShootings(format) && readSign(';')
                    && readSpares(format) && readSign(';')
                    && readMiss(format) && readSign(';')
                    && readStart(format) && readSign(';') && readSign('}');
        }

        boolean readLaps(Format format) {
            if (!readWord("laps") || !readNumber(1, 6)) {
                return false;
            }
            format.laps = number;
            return true;
        }

        boolean readShootings(Format format) {
            if (!readWord("shoot")) {
                return false;
            }
            int least = 1;
            for (int i = 0; i < MOST_SHOOTINGS && (i == 0 || sort == TOKEN_NUMBER); i++) {
                if (!readNumber(least, format.laps - 1)) {
                    return false;
                }
                least = number + 1;
                format.shootings++;
            }
            return sort != TOKEN_NUMBER || fail(FAULT_NUMBER);
        }

        boolean readSpares(Format format) {
            if (!readWord("spares") || !readNumber(0, 3)) {
                return false;
            }
            format.spares = number;
            return true;
        }

        boolean readMiss(Format format) {
            if (!readWord("miss")) {
                return false;
            }
            format.loops = isWord("loop");
            if (!format.loops && !isWord("add")) {
                return fail(FAULT_TOKEN);
            }
            step();
            if (!readNumber(0, 600)) {
                return false;
            }
            format.missSeconds = number;
            return true;
        }

        boolean readStart(Format format) {
            if (!readWord("start")) {
                return false;
            }
            if (isWord("mass")) {
                format.startSort = START_MASS;
                step();
                return true;
            }
            boolean chase = isWord("chase");
            if (!chase && !isWord("every")) {
                return fail(FAULT_TOKEN);
            }
            format.startSort = chase ? START_CHASE : START_EVERY;
            step();
            if (!readNumber(chase ? 0 : 1, chase ? 3600 : 600)) {
                return false;
            }
            format.startSeconds = number;
            return true;
        }

        boolean readWord(String word) {
            if (!isWord(word)) {
                return fail(FAULT_TOKEN);
            }
            step();
            return true;
        }

        boolean readSign(char sign) {
            if (sort != TOKEN_SIGN || text[place] != sign) {
                return fail(FAULT_TOKEN);
            }
            step();
            return true;
        }

        boolean readNumber(int least, int most) {
            if (sort != TOKEN_NUMBER) {
                return fail(FAULT_TOKEN);
            }
            number = 0;
            for (int i = place; i < behind; i++) {
                // Cut far above every limit, so that a long row of digits can't wrap around.
                number = Math.min(number * 10 + text[i] - '0', 100000);
            }
            if (number < least || number > most) {
                return fail(FAULT_NUMBER);
            }
            step();
            return true;
        }

        boolean fail(int which) {
            fault = which;
            faultPlace = place;
            return false;
        }

        boolean isWord(String word) {
            if (sort != TOKEN_WORD || behind - place != word.length()) {
                return false;
            }
            for (int i = 0; i < word.length(); i++) {
                if (text[place + i] != word.charAt(i)) {
                    return false;
                }
            }
            return true;
        }

        void step() {
            place = behind;
            while (place < length && sortAt(place) == TOKEN_BLANK) {
                place++;
            }
            sort = sortAt(place);
            behind = Math.min(place + 1, length);
            if (sort == TOKEN_WORD || sort == TOKEN_NUMBER) {
                while (behind < length && sortAt(behind) == sort) {
                    behind++;
                }
            }
        }

        /** What sort of token the byte belongs to; a sign may turn out to be none. */
        int sortAt(int i) {
            if (i < 0 || i >= length) {
                return TOKEN_END;
            }
            int sign = text[i];
            if (sign == 10 || sign == 32) {
                return TOKEN_BLANK;
            }
            if (sign >= 'a' && sign <= 'z') {
                return TOKEN_WORD;
            }
            return sign >= '0' && sign <= '9' ? TOKEN_NUMBER : TOKEN_SIGN;
        }
    }
}
