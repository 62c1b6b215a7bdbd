/** The bounds that Terms 1 and promises 1 to 4 name, each in a method of its own. */
public final class FormatBoundsTest {
    private static final Check CHECK = new Check();
    private static final String REST = ";spares 0;miss add 5;start mass;}";
    private static final String A = "format A{laps 2;shoot 1" + REST;
    private static final String H = "format H{laps 5;shoot 2" + REST;
    private static final int BLANKS = 0x20202020;

    public static void main(String[] args) {
        atMostEightFormats();
        blanksAreTenAndThirtyTwo();
        namesAreAToH();
        wordsAreSmallLetters();
        numbersAreDigits();
        lapsOneToSix();
        shootAboveTheOneAhead();
        shootBelowLaps();
        shootAtMostFour();
        shootAtLeastOne();
        sparesZeroToThree();
        missZeroToSixHundred();
        everyOneToSixHundred();
        chaseZeroToThirtySixHundred();
        theFirstFaultAlongTheText();
        theLeastFaultOfAPlace();
        theLengthIfMoreMustCome();
        aNameToldAlready();
        aNewObject();
        feedFourBytesOfEachNumber();
        feedAtMostAThousand();
        formatsOfTheFirstBytes();
        formatsEmptyTheTape();
        formatsOfMoreThanThereAre();
        formatsReplaceThoseBefore();
        faultOfTheLatest();
        faultOfAnotherWhat();
        CHECK.end();
    }

    /** With H told before it, a sound text takes H's place, and a fault from before is gone. */
    private static void sound(String text, int count) {
        SkiShots x = new SkiShots();
        Check.formats(x, H);
        Check.formats(x, "#");
        CHECK.due(text, Check.formats(x, text), count);
        CHECK.due(text + " count(1)", x.count(1), count);
        CHECK.due(text + " fault(0)", x.fault(0), 0);
        CHECK.due(text + " fault(1)", x.fault(1), -1);
        CHECK.due(text + " H", x.race(7, -1), text.contains("H") ? 0 : -1);
        CHECK.due(text + " empties the tape", x.feed(0, 0, 0, 0, 0), 20);
    }

    /** With H told before it, a faulty text leaves H alone as the format there is. */
    private static void faulty(String text, int fault, int place) {
        SkiShots x = new SkiShots();
        Check.formats(x, H);
        CHECK.due(text, Check.formats(x, text), -1);
        CHECK.due(text + " fault(0)", x.fault(0), fault);
        CHECK.due(text + " fault(1)", x.fault(1), place);
        CHECK.due(text + " count(1)", x.count(1), 1);
        CHECK.due(text + " leaves H", x.race(7, -1), 0);
        CHECK.dueLook(x, 0, 1, "5");
        CHECK.due(text + " brings no A", x.race(0, -1), -1);
        CHECK.due(text + " empties the tape", x.feed(0, 0, 0, 0, 0), 20);
    }

    /** An N that may stand there, or is beyond what is said. */
    private static void number(String before, String n, String behind, boolean fits) {
        if (fits) {
            sound(before + n + behind, 1);
        } else {
            faulty(before + n + behind, 2, before.length());
            faulty(before + n, 2, before.length());
        }
    }

    private static String named(int name) {
        return A.replace(" A", " " + (char) ('A' + name));
    }

    private static String firstNames(int count) {
        StringBuilder all = new StringBuilder();
        for (int name = 0; name < count; name++) {
            all.append(named(name));
        }
        return all.toString();
    }

    private static void atMostEightFormats() {
        for (int count = 0; count <= 8; count++) {
            sound(firstNames(count), count);
        }
        String eight = firstNames(8);
        faulty(eight + A, 1, eight.length());
        faulty(eight + "\n " + H, 1, eight.length() + 2);
        faulty(eight + "format", 1, eight.length());
    }

    private static void blanksAreTenAndThirtyTwo() {
        String[] tokens = {"format", "A", "{", "laps", "3", ";", "shoot", "1", "2", ";", "spares", "0", ";",
            "miss", "loop", "5", ";", "start", "every", "9", ";", "}"};
        for (String blank : new String[] {" ", "\n", " \n", "\n\n  "}) {
            sound(blank + String.join(blank, tokens) + blank, 1);
        }
        for (int b = 0; b < 256; b++) {
            if (b != 10 && b != 32) {
                faulty((char) b + A, 1, 0);
                faulty(A + (char) b, 1, A.length());
                faulty("format A" + (char) b + "{laps 2;shoot 1" + REST, 1, b == '{' ? 9 : 8);
            }
        }
    }

    private static void namesAreAToH() {
        for (char name = 'A'; name <= 'H'; name++) {
            SkiShots x = new SkiShots();
            CHECK.due("format " + name, Check.formats(x, A.replace(" A", " " + name)), 1);
            CHECK.due("race of " + name, x.race(name - 'A', -1), 0);
            CHECK.dueLook(x, 0, 0, Integer.toString(name - 'A'));
        }
        faulty(A.replace(" A", " @"), 1, 7);
        faulty(A.replace(" A", " I"), 1, 7);
        faulty(A.replace(" A", " a"), 1, 7);
        faulty(A.replace(" A", " AA"), 1, 8);
        faulty(A.replace(" A", " A B"), 1, 9);
        faulty(A.replace(" A", ""), 1, 6);
    }

    private static void wordsAreSmallLetters() {
        String[] words = {"format", "laps", "shoot", "spares", "miss", "add", "start", "mass"};
        for (String word : words) {
            int at = A.indexOf(word);
            faulty(A.replace(word, word + "s"), 1, at);
            faulty(A.replace(word, "s" + word), 1, at);
            faulty(A.replace(word, word + "z"), 1, at);
            faulty(A.replace(word, "a" + word), 1, at);
            faulty(A.replace(word, word + "`"), 1, at + word.length());
            faulty(A.replace(word, word + (char) ('z' + 1)), 1, at + word.length());
            faulty(A.replace(word, "z" + word.substring(1)), 1, at);
            faulty(A.replace(word, word.substring(0, word.length() - 1) + "z"), 1, at);
            faulty(A.replace(word, word.substring(1)), 1, at);
            faulty(A.replace(word, word.substring(0, word.length() - 1)), 1, at);
            faulty(A.replace(word, word.toUpperCase(java.util.Locale.ROOT)), 1, at);
            faulty(A.replace(word, word.charAt(0) + " " + word.substring(1)), 1, at);
            faulty(A.replace(word, ""), 1, A.charAt(at + word.length()) == ' ' ? at + 1 : at);
        }
    }

    private static void numbersAreDigits() {
        number("format A{laps ", "0000000000000000000006", ";shoot 1" + REST, true);
        number("format A{laps ", "60", ";shoot 1" + REST, false);
        number("format A{laps ", "4294967298", ";shoot 1" + REST, false);
        number("format A{laps ", "18446744073709551618", ";shoot 1" + REST, false);
        faulty("format A{laps /;", 1, 14);
        faulty("format A{laps :;", 1, 14);
        faulty("format A{laps 2/;", 1, 15);
        faulty("format A{laps 2:;", 1, 15);
        faulty("format A{laps +2;", 1, 14);
        faulty("format A{laps -2;", 1, 14);
        faulty("format A{laps 2 2;", 1, 16);
    }

    private static void lapsOneToSix() {
        for (int laps = 2; laps <= 6; laps++) {
            number("format A{laps ", "" + laps, ";shoot 1" + REST, true);
        }
        number("format A{laps ", "0", ";shoot 1" + REST, false);
        number("format A{laps ", "7", ";shoot 1" + REST, false);
        // One lap may be told; but then no N of shoot is below it.
        faulty("format A{laps 1", 1, 15);
        number("format A{laps 1;shoot ", "1", REST, false);
        number("format A{laps 1;shoot ", "0", REST, false);
        faulty("format A{laps 1;shoot;", 1, 21);
    }

    private static void shootAboveTheOneAhead() {
        number("format A{laps 6;shoot ", "1", REST, true);
        number("format A{laps 6;shoot ", "0", REST, false);
        number("format A{laps 6;shoot 3 ", "4", REST, true);
        number("format A{laps 6;shoot 3 ", "3", REST, false);
        number("format A{laps 6;shoot 3 ", "2", REST, false);
        number("format A{laps 6;shoot 1 2 3 ", "4", REST, true);
        number("format A{laps 6;shoot 1 2 3 ", "3", REST, false);
        number("format A{laps 6;shoot 1 3 ", "2", " 4" + REST, false);
    }

    private static void shootBelowLaps() {
        for (int laps = 2; laps <= 6; laps++) {
            number("format A{laps " + laps + ";shoot ", "" + (laps - 1), REST, true);
            number("format A{laps " + laps + ";shoot ", "" + laps, REST, false);
            number("format A{laps " + laps + ";shoot ", "" + (laps + 1), REST, false);
        }
        number("format A{laps 4;shoot 1 ", "3", REST, true);
        number("format A{laps 4;shoot 1 ", "4", REST, false);
    }

    private static void shootAtMostFour() {
        number("format A{laps 6;shoot 1 2 3 ", "5", REST, true);
        number("format A{laps 6;shoot 1 2 3 4 ", "5", REST, false);
        number("format A{laps 6;shoot 1 2 3 5 ", "5", REST, false);
        number("format A{laps 6;shoot 1 2 3 5 ", "99", " 1" + REST, false);
    }

    private static void shootAtLeastOne() {
        faulty("format A{laps 6;shoot" + REST, 1, 21);
        faulty("format A{laps 6;shoot ;" + REST, 1, 22);
        faulty("format A{laps 6;shoot spares", 1, 22);
        faulty("format A{laps 6;shoot", 1, 21);
    }

    private static void sparesZeroToThree() {
        String before = "format A{laps 2;shoot 1;spares ";
        for (int spares = 0; spares <= 4; spares++) {
            number(before, "" + spares, ";miss add 5;start mass;}", spares <= 3);
        }
    }

    private static void missZeroToSixHundred() {
        for (String sort : new String[] {"add ", "loop "}) {
            String before = "format A{laps 2;shoot 1;spares 0;miss " + sort;
            number(before, "0", ";start mass;}", true);
            number(before, "600", ";start mass;}", true);
            number(before, "601", ";start mass;}", false);
        }
    }

    private static void everyOneToSixHundred() {
        String before = "format A{laps 2;shoot 1;spares 0;miss add 5;start every ";
        number(before, "0", ";}", false);
        number(before, "1", ";}", true);
        number(before, "600", ";}", true);
        number(before, "601", ";}", false);
    }

    private static void chaseZeroToThirtySixHundred() {
        String before = "format A{laps 2;shoot 1;spares 0;miss add 5;start chase ";
        number(before, "0", ";}", true);
        number(before, "3600", ";}", true);
        number(before, "3601", ";}", false);
    }

    private static void theFirstFaultAlongTheText() {
        faulty("format A{laps 7;shoot 1 #", 2, 14);
        faulty("format A{laps #;shoot 9;", 1, 14);
        faulty(A + "format A{laps 7;#", 3, A.length() + 7);
        faulty(A + "format B{laps 7;shoot 1" + REST + A, 2, A.length() + 14);
        faulty(A + "format B#" + A, 1, A.length() + 8);
    }

    /** A NAME or an N where neither can stand is fault 1, even if it is told already or too great. */
    private static void theLeastFaultOfAPlace() {
        faulty(A + "A", 1, A.length());
        faulty("format A{laps 2 601;", 1, 16);
        faulty("format A{laps 2;shoot 1;spares 0 4;", 1, 33);
        faulty("format A A", 1, 9);
    }

    private static void theLengthIfMoreMustCome() {
        String[] cuts = {"format", "format A", "format A{", "format A{laps", "format A{laps 2", "format A{laps 2;",
            "format A{laps 2;shoot", "format A{laps 2;shoot 1", A.substring(0, A.length() - 1)};
        for (String cut : cuts) {
            faulty(cut, 1, cut.length());
            faulty(cut + " \n ", 1, cut.length() + 3);
        }
        faulty(A + "format", 1, A.length() + 6);
    }

    private static void aNameToldAlready() {
        for (int name = 0; name < 8; name++) {
            String ahead = firstNames(name + 1);
            String again = named(name);
            if (name < 7) {
                faulty(ahead + again, 3, ahead.length() + 7);
                sound(ahead + named(name + 1), name + 2);
            }
        }
        // Told already in another text is fine.
        SkiShots x = new SkiShots();
        CHECK.due("A", Check.formats(x, A), 1);
        CHECK.due("A in a second text", Check.formats(x, A), 1);
        CHECK.due("A in a faulty text", Check.formats(x, A + "x"), -1);
        CHECK.due("A behind a faulty text", Check.formats(x, A), 1);
    }

    private static void aNewObject() {
        SkiShots x = new SkiShots();
        for (int what = 0; what <= 4; what++) {
            CHECK.due("new: count(" + what + ")", x.count(what), 0);
        }
        CHECK.due("new: fault(0)", x.fault(0), 0);
        CHECK.due("new: fault(1)", x.fault(1), -1);
        for (int name = 0; name < 8; name++) {
            CHECK.due("new: race", x.race(name, -1), -1);
        }
        CHECK.due("new: points", x.points(0, 0), -1);
        CHECK.due("new: standing", x.standing(0, 0), -1);
        CHECK.due("new: starters", x.starters(0, 0), 2);
        CHECK.due("new: starters tomorrow", x.starters(0, 1), -1);
        CHECK.due("new: formats(1)", x.formats(1), -2);
        CHECK.due("new: formats(0)", x.formats(0), 0);
        CHECK.due("new: feed", x.feed(0, 0, 0, 0, 0), 20);
    }

    private static void feedFourBytesOfEachNumber() {
        for (int place = 0; place < 20; place++) {
            int[] n = {BLANKS, BLANKS, BLANKS, BLANKS, BLANKS};
            // A byte with its highest bit set comes as it is, too.
            n[place / 4] ^= (0x20 ^ 0xe1) << 24 - place % 4 * 8;
            SkiShots x = new SkiShots();
            x.feed(n[0], n[1], n[2], n[3], n[4]);
            CHECK.due("blanks ahead of place " + place, x.formats(20), -1);
            CHECK.due("fault(0)", x.fault(0), 1);
            CHECK.due("fault(1)", x.fault(1), place);
        }
    }

    /** A tape of H and blanks behind it, of so many feeds. */
    private static SkiShots fed(int feeds) {
        SkiShots x = new SkiShots();
        Check.formats(x, "format C{laps 7");
        Check.formats(x, A);
        Check.feed(x, H + " ".repeat(20 * feeds - H.length()));
        return x;
    }

    private static void feedAtMostAThousand() {
        CHECK.due("up to 980", fed(48).feed(BLANKS, BLANKS, BLANKS, BLANKS, BLANKS), 980);
        CHECK.due("up to 1000", fed(49).feed(BLANKS, BLANKS, BLANKS, BLANKS, BLANKS), 1000);
        CHECK.leavesAll("beyond 1000", () -> fed(50), -1, x -> x.feed(-1, -1, -1, -1, -1));
        SkiShots x = fed(50);
        CHECK.due("beyond 1000", x.feed(-1, -1, -1, -1, -1), -1);
        CHECK.due("and once more", x.feed(0, 0, 0, 0, 0), -1);
        CHECK.due("none of those came", x.formats(1000), 1);
        CHECK.due("then there is room again", x.feed(-1, -1, -1, -1, -1), 20);
    }

    private static void formatsOfTheFirstBytes() {
        CHECK.due("H alone", fed(50).formats(H.length()), 1);
        CHECK.due("H and a blank", fed(50).formats(H.length() + 1), 1);
        CHECK.due("all", fed(50).formats(1000), 1);
        SkiShots x = fed(50);
        CHECK.due("H less a byte", x.formats(H.length() - 1), -1);
        CHECK.due("fault(0)", x.fault(0), 1);
        CHECK.due("its place is the length", x.fault(1), H.length() - 1);
        x = fed(50);
        CHECK.due("one byte", x.formats(1), -1);
        CHECK.due("fault(0)", x.fault(0), 1);
        CHECK.due("a word that is cut", x.fault(1), 0);
        x = fed(50);
        CHECK.due("no byte", x.formats(0), 0);
        CHECK.due("no format any more", x.count(1), 0);
        CHECK.due("fault(0)", x.fault(0), 0);
        CHECK.due("fault(1)", x.fault(1), -1);
    }

    private static void formatsEmptyTheTape() {
        int[] lengths = {0, 1, H.length() - 1, H.length(), 60, 999, 1000};
        for (int n : lengths) {
            SkiShots x = fed(50);
            x.formats(n);
            CHECK.due("formats(1) behind formats(" + n + ")", x.formats(1), -2);
            CHECK.due("feed behind formats(" + n + ")", x.feed(BLANKS, BLANKS, BLANKS, BLANKS, BLANKS), 20);
            CHECK.due("21 behind formats(" + n + ")", x.formats(21), -2);
            CHECK.due("20 blanks behind formats(" + n + ")", x.formats(20), 0);
        }
    }

    private static void formatsOfMoreThanThereAre() {
        int[] feeds = {3, 49, 50};
        for (int count : feeds) {
            int[] wrong = {-1, -2, Integer.MIN_VALUE, 20 * count + 1, Integer.MAX_VALUE};
            for (int n : wrong) {
                CHECK.leavesAll("formats(" + n + ")", () -> fed(count), -2, x -> x.formats(n));
            }
            CHECK.due("as many as there are", fed(count).formats(20 * count), 1);
        }
        CHECK.leavesAll("formats(1) of none", SkiShots::new, -2, x -> x.formats(1));
        CHECK.leavesAll("formats(-1) of none", SkiShots::new, -2, x -> x.formats(-1));
    }

    private static void formatsReplaceThoseBefore() {
        SkiShots x = Check.with(0, A, named(1));
        CHECK.due("C", Check.formats(x, named(2)), 1);
        CHECK.due("A is gone", x.race(0, -1), -1);
        CHECK.due("B is gone", x.race(1, -1), -1);
        CHECK.due("C is there", x.race(2, -1), 0);
        CHECK.due("blanks alone", Check.formats(x, " \n"), 0);
        CHECK.due("C is gone", x.race(2, -1), -1);
        CHECK.due("count(1)", x.count(1), 0);
        CHECK.dueLook(x, 0, 0, "2");
    }

    private static void faultOfTheLatest() {
        SkiShots x = new SkiShots();
        x.formats(1);
        CHECK.due("none but -2: fault(0)", x.fault(0), 0);
        CHECK.due("none but -2: fault(1)", x.fault(1), -1);
        Check.formats(x, "format A{laps 7");
        x.formats(1);
        x.formats(-1);
        CHECK.due("-2 behind a fault: fault(0)", x.fault(0), 2);
        CHECK.due("-2 behind a fault: fault(1)", x.fault(1), 14);
        Check.formats(x, "#");
        CHECK.due("a second fault: fault(0)", x.fault(0), 1);
        CHECK.due("a second fault: fault(1)", x.fault(1), 0);
        Check.formats(x, A);
        CHECK.due("a sound text: fault(0)", x.fault(0), 0);
        CHECK.due("a sound text: fault(1)", x.fault(1), -1);
    }

    private static void faultOfAnotherWhat() {
        for (int what : new int[] {-1, 2, 3, Integer.MIN_VALUE, Integer.MAX_VALUE}) {
            CHECK.leavesAll("fault(" + what + ")", () -> fed(5), -1, x -> x.fault(what));
            SkiShots x = new SkiShots();
            Check.formats(x, A + A);
            CHECK.due("with a fault: fault(" + what + ")", x.fault(what), -1);
        }
    }
}
