/** Promises 1 to 4: a new object, feed, formats, fault. */
public final class FormatsTest {
    private static final Check CHECK = new Check();
    private static final String A = "format A{laps 2;shoot 1;spares 0;miss add 5;start mass;}";

    public static void main(String[] args) {
        newObject();
        tape();
        soundTexts();
        tokenFaults();
        numberFaults();
        nameFaults();
        limitsOfNumbers();
        whatStays();
        faultOfTheLatest();
        CHECK.end();
    }

    private static void newObject() {
        SkiShots x = new SkiShots();
        for (int what = 0; what <= 4; what++) {
            CHECK.due("new: count(" + what + ")", x.count(what), 0);
        }
        CHECK.due("new: fault(0)", x.fault(0), 0);
        CHECK.due("new: fault(1)", x.fault(1), -1);
        CHECK.due("new: formats(1)", x.formats(1), -2);
        CHECK.due("new: race(0, -1)", x.race(0, -1), -1);
        CHECK.due("new: NONE", SkiShots.NONE, -1);
        CHECK.dueLook(x, 0, 0, "IndexOutOfBoundsException");
    }

    private static void tape() {
        SkiShots x = new SkiShots();
        for (int i = 1; i <= 50; i++) {
            CHECK.due("feed " + i, x.feed(0x20202020, 0x20202020, 0x0a0a0a0a, 0x20202020, 0x0a202020), 20 * i);
        }
        CHECK.due("feed beyond 1000", x.feed(-1, -1, -1, -1, -1), -1);
        CHECK.due("1001 of 1000", x.formats(1001), -2);
        CHECK.due("below 0", x.formats(-1), -2);
        CHECK.due("least int", x.formats(Integer.MIN_VALUE), -2);
        CHECK.due("greatest int", x.formats(Integer.MAX_VALUE), -2);
        CHECK.due("1000 blanks", x.formats(1000), 0);
        CHECK.due("empty behind it", x.formats(1), -2);
        CHECK.due("feed from 0 again", x.feed(0, 0, 0, 0, 0), 20);
        CHECK.due("a part, of none", x.formats(0), 0);
        CHECK.due("the rest is gone", x.feed(0, 0, 0, 0, 0), 20);

        // The highest byte of a number comes first.
        x = new SkiShots();
        x.feed(0x20202020, 0x20207b20, 0x20202020, 0x20202020, 0x20202020);
        CHECK.due("a sign alone", x.formats(20), -1);
        CHECK.due("its fault", x.fault(0), 1);
        CHECK.due("its place", x.fault(1), 6);
    }

    private static void sound(String text, int count) {
        SkiShots x = new SkiShots();
        CHECK.due(text, Check.formats(x, text), count);
        CHECK.due(text + " count(1)", x.count(1), count);
        CHECK.due(text + " fault(0)", x.fault(0), 0);
        CHECK.due(text + " fault(1)", x.fault(1), -1);
    }

    private static void faulty(String text, int fault, int place) {
        SkiShots x = new SkiShots();
        CHECK.due(text, Check.formats(x, text), -1);
        CHECK.due(text + " fault(0)", x.fault(0), fault);
        CHECK.due(text + " fault(1)", x.fault(1), place);
        CHECK.due(text + " count(1)", x.count(1), 0);
    }

    private static void soundTexts() {
        sound("", 0);
        sound(" \n ", 0);
        sound(A, 1);
        sound("\n" + A + " \n", 1);
        sound("formatB{laps2;shoot1;spares0;miss loop0;start chase0;}", 1);
        sound("format\nC \n{ laps 006 ; shoot 1 2 4 5 ; spares 3 ; miss loop 600 ; start every 600 ; } ", 1);
        sound(A + A.replace(" A", " H") + A.replace(" A", " B"), 3);
        sound(eight(), 8);
    }

    private static String eight() {
        StringBuilder all = new StringBuilder();
        for (char name = 'H'; name >= 'A'; name--) {
            all.append(A.replace(" A", " " + name));
        }
        return all.toString();
    }

    private static void tokenFaults() {
        for (int cut = 1; cut < A.length(); cut++) {
            cutText(cut);
        }
        faulty("form A", 1, 0);
        faulty("formats A", 1, 0);
        faulty("formatz A", 1, 0);
        faulty("aormat A", 1, 0);
        faulty("formaz A", 1, 0);
        faulty("Format A", 1, 0);
        faulty("A", 1, 0);
        faulty("7", 1, 0);
        faulty("format", 1, 6);
        faulty("format  \n", 1, 9);
        faulty("format I{", 1, 7);
        faulty("format @{", 1, 7);
        faulty("format a{", 1, 7);
        faulty("format 1{", 1, 7);
        faulty("format AB{", 1, 8);
        faulty("format A(", 1, 8);
        faulty("format A\t{", 1, 8);
        faulty("format A\r{", 1, 8);
        faulty("format A" + (char) 0 + "{", 1, 8);
        faulty("format A" + (char) 251 + "{", 1, 8);
        faulty("format " + (char) 193 + "{", 1, 7);
        faulty("format A{lap 2;", 1, 9);
        faulty("format A{laps ;", 1, 14);
        faulty("format A{laps -1;", 1, 14);
        faulty("format A{laps 2 3;", 1, 16);
        faulty("format A{laps 2;spares", 1, 16);
        faulty("format A{laps 2;shoot;", 1, 21);
        faulty("format A{laps 2;shoot 1,", 1, 23);
        faulty("format A{laps 2;shoot 1;spares;", 1, 30);
        faulty("format A{laps 2;shoot 1;spares 0;miss 5;", 1, 38);
        faulty("format A{laps 2;shoot 1;spares 0;miss ad 5;", 1, 38);
        faulty("format A{laps 2;shoot 1;spares 0;miss loop;", 1, 42);
        faulty("format A{laps 2;shoot 1;spares 0;miss loop 5 5;", 1, 45);
        faulty("format A{laps 2;shoot 1;spares 0;miss add 5;start;", 1, 49);
        faulty("format A{laps 2;shoot 1;spares 0;miss add 5;start masses;", 1, 50);
        faulty("format A{laps 2;shoot 1;spares 0;miss add 5;start mass 3;", 1, 55);
        faulty("format A{laps 2;shoot 1;spares 0;miss add 5;start every;", 1, 55);
        faulty("format A{laps 2;shoot 1;spares 0;miss add 5;start chase;", 1, 55);
        faulty("format A{laps 2;shoot 1;spares 0;miss add 5;start mass;;", 1, 55);
        faulty(A + "}", 1, A.length());
        faulty(A + " A", 1, A.length() + 1);
        faulty(A + A.replace(" A", " B") + "x", 1, 2 * A.length());
        faulty(eight() + " " + A, 1, 8 * A.length() + 1);
    }

    /** A word that was cut is a token that can't stand there, at its own place. */
    private static void cutText(int cut) {
        String text = A.substring(0, cut);
        int place = cut;
        boolean insideAWord = Character.isLowerCase(text.charAt(cut - 1)) && Character.isLowerCase(A.charAt(cut));
        while (insideAWord && place > 0 && Character.isLowerCase(text.charAt(place - 1))) {
            place--;
        }
        faulty(text, 1, place);
    }

    private static void numberFaults() {
        faulty("format A{laps 0;", 2, 14);
        faulty("format A{laps 7", 2, 14);
        faulty("format A{laps 7 #", 2, 14);
        faulty("format A{laps 4294967298;", 2, 14);
        faulty("format A{laps 18446744073709551618;", 2, 14);
        faulty("format A{laps 6;shoot 0;", 2, 22);
        faulty("format A{laps 6;shoot 6;", 2, 22);
        faulty("format A{laps 1;shoot 1;", 2, 22);
        faulty("format A{laps 6;shoot 3 3;", 2, 24);
        faulty("format A{laps 6;shoot 3 2;", 2, 24);
        faulty("format A{laps 6;shoot 1 2 3 6;", 2, 28);
        faulty("format A{laps 6;shoot 1 2 3 4 5;", 2, 30);
        faulty("format A{laps 6;shoot 1 2 3 4 9;", 2, 30);
        faulty("format A{laps 6;shoot 1;spares 4;", 2, 31);
        faulty("format A{laps 6;shoot 1;spares 0;miss add 601;", 2, 42);
        faulty("format A{laps 6;shoot 1;spares 0;miss loop 601;", 2, 43);
        faulty("format A{laps 6;shoot 1;spares 0;miss add 0;start every 0;", 2, 56);
        faulty("format A{laps 6;shoot 1;spares 0;miss add 0;start every 601;", 2, 56);
        faulty("format A{laps 6;shoot 1;spares 0;miss add 0;start chase 3601;", 2, 56);
    }

    private static void nameFaults() {
        faulty(A + A, 3, A.length() + 7);
        faulty(A + A.replace(" A", " B") + " format\nA", 3, 2 * A.length() + 8);
        faulty(A + "format A{laps 9;", 3, A.length() + 7);
        faulty(A + "format B{laps 9;", 2, A.length() + 14);
    }

    private static void limitsOfNumbers() {
        SkiShots x = new SkiShots();
        Check.formats(x, "format A{laps 2;shoot 1;spares 0;miss add 0;start every 1;}"
                + "format B{laps 6;shoot 1 3 4 5;spares 3;miss loop 600;start chase 3600;}");
        x.race(0, -1);
        x.race(1, 0);
        CHECK.dueLook(x, 0, 1, "2");
        CHECK.dueLook(x, 0, 2, "1");
        CHECK.dueLook(x, 0, 3, "0");
        CHECK.dueLook(x, 1, 0, "1");
        CHECK.dueLook(x, 1, 1, "6");
        CHECK.dueLook(x, 1, 2, "4");
        CHECK.dueLook(x, 1, 3, "3");
    }

    private static void whatStays() {
        SkiShots x = new SkiShots();
        Check.formats(x, A + A.replace(" A", " B"));
        CHECK.due("a fault", Check.formats(x, A.replace(" A", " C") + "x"), -1);
        CHECK.due("the tape is empty behind a fault", x.formats(1), -2);
        CHECK.due("formats stay behind a fault", x.count(1), 2);
        CHECK.due("race of a format that stays", x.race(1, -1), 0);
        CHECK.due("race of a format that never came", x.race(2, -1), -1);
        CHECK.due("others from now on", Check.formats(x, A.replace(" A", " D")), 1);
        CHECK.due("count(1)", x.count(1), 1);
        CHECK.due("race of a format that is gone", x.race(0, -1), -1);
        CHECK.due("race of the new one", x.race(3, -1), 1);
        CHECK.due("no format at all", x.formats(0), 0);
        CHECK.due("race of it", x.race(3, -1), -1);
        CHECK.dueLook(x, 1, 0, "3");
    }

    private static void faultOfTheLatest() {
        SkiShots x = new SkiShots();
        int length = Check.feed(x, "format A{laps 7;");
        CHECK.due("more than there are", x.formats(21), -2);
        CHECK.due("no fault yet", x.fault(0), 0);
        CHECK.due("the tape stayed", x.formats(length), -1);
        x.formats(-1);
        x.formats(1);
        CHECK.due("-2 leaves the fault", x.fault(0), 2);
        CHECK.due("-2 leaves its place", x.fault(1), 14);
        CHECK.due("fault(2)", x.fault(2), -1);
        CHECK.due("fault(-1)", x.fault(-1), -1);
        x.formats(0);
        CHECK.due("a sound text: no fault", x.fault(0), 0);
        CHECK.due("nor a place", x.fault(1), -1);
    }
}
