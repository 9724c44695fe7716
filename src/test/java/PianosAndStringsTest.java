import java.util.NoSuchElementException;

/** Promises 1 to 8. */
public final class PianosAndStringsTest {
    private static final Class<IndexOutOfBoundsException> INDEX = IndexOutOfBoundsException.class;
    private static final Class<IllegalArgumentException> ARGUMENT = IllegalArgumentException.class;
    private static final Class<IllegalStateException> STATE = IllegalStateException.class;
    private static final Class<UnsupportedOperationException> UNSUPPORTED = UnsupportedOperationException.class;
    private static final Class<NoSuchElementException> NONE = NoSuchElementException.class;

    public static void main(String[] args) {
        newObject();
        piano();
        rate();
        string();
        stringByThePlate();
        stringExceptionsInOrder();
        strings();
        tension();
        load();
        borne();
        Checks.end("PianosAndStringsTest");
    }

    private static void newObject() {
        Hammerline x = new Hammerline();
        Checks.same("new acts", 0, x.acts());
        Checks.same("new isSound", true, x.isSound());
        Checks.same("new wipe", 0, x.wipe());
        Checks.refuses("new readiest", NONE, x::readiest);
        Checks.refuses("new back", NONE, x::back);
        Checks.refuses("new borne(0)", INDEX, () -> x.borne(0));
        Checks.refuses("new actAt(0)", INDEX, () -> x.actAt(0));
    }

    private static void piano() {
        Hammerline x = new Hammerline();
        int[][] wrong = {
            {-1, 1, 1000}, {64, 1, 1000}, {0, 0, 1000}, {0, 25, 1000}, {0, 1, 999}, {0, 1, 250001},
            {Integer.MIN_VALUE, 1, 1000}, {0, Integer.MAX_VALUE, 1000}
        };
        for (int[] row : wrong) {
            Checks.refuses("piano out of range", ARGUMENT, () -> x.piano(row[0], row[1], row[2]));
        }
        Checks.refuses("none was added", INDEX, () -> x.minutes(0));
        Checks.same("piano 0", 0, x.piano(0, 1, 1000));
        Checks.same("piano 1", 1, x.piano(63, 24, 250000));
        Checks.same("piano 2", 2, x.piano(10, 5, 5000));
        Checks.same("piano 3", 3, x.piano(10, 5, 5000));
        Checks.refuses("fifth piano", STATE, () -> x.piano(10, 5, 5000));
        Checks.refuses("fifth piano out of range", ARGUMENT, () -> x.piano(64, 5, 5000));
        Checks.same("notes of piano 0", 50, x.hardness(0, 0));
        Checks.refuses("no second note", INDEX, () -> x.hardness(0, 1));
        Checks.same("last note of piano 1", 50, x.hardness(1, 23));
        Checks.refuses("no note 24", INDEX, () -> x.hardness(1, 24));
        Checks.same("no act", 0, x.acts());
        Checks.same("new moisture", 4500, x.moisture(3));
    }

    private static void rate() {
        Hammerline x = new Hammerline();
        int[] lowest = {2750, 2914, 3087, 3270, 3465, 3671, 3889, 4120, 4365, 4625, 4900, 5191};
        for (int key = 0; key <= 87; key++) {
            int want = lowest[key % 12];
            for (int octave = 0; octave < key / 12; octave++) {
                want *= 2;
            }
            Checks.same("rate(" + key + ")", want, x.rate(key));
        }
        Checks.same("rate(48)", 44000, x.rate(48));
        Checks.same("rate(87)", 418560, x.rate(87));
        for (int key : new int[] {-1, 88, -12, Integer.MIN_VALUE, Integer.MAX_VALUE}) {
            Checks.refuses("rate(" + key + ")", ARGUMENT, () -> x.rate(key));
        }
    }

    private static void string() {
        Hammerline x = new Hammerline();
        x.piano(39, 3, 20000);
        Checks.same("string", 607, x.string(0, 0, 600, 100, 3));
        Checks.same("string by the key of the note", 615, x.string(0, 1, 570, 100, 3));
        Checks.same("pitch as it is strung", -1000, x.pitch(0, 0));
        Checks.same("minutes", 120, x.minutes(0));
        Checks.same("act", 's', x.actAt(0));
        x.tune(0, 0, 500);
        x.play(0, 0, 1, 10);
        Checks.same("strung anew", 16, x.string(0, 0, 100, 98, 1));
        Checks.same("strings in place of others", 1, x.strings(0, 0));
        Checks.same("tension in place of others", 16, x.tension(0, 0));
        Checks.same("load in place of others", 1, x.load(0, 0));
        Checks.same("pitch as it is strung anew", -1000, x.pitch(0, 0));
        Checks.same("pitch of the other one", -1050, x.pitch(0, 1));
        Checks.same("blows stay", 10, x.blows(0, 0));
        Checks.same("minutes for one string", 143, x.minutes(0));
        x.piano(63, 24, 250000);
        // 50 * 104640 / 1000 is 5232; 5232 * 5232 * 160 * 160 / 4055000000 is 172.8
        Checks.same("edges of numbers", 172, x.string(1, 0, 50, 160, 1));
        Checks.same("least numbers", 33, x.string(1, 0, 50, 70, 1));
        Checks.refuses("a tension beyond int times strings", UNSUPPORTED, () -> x.string(1, 23, 2000, 160, 3));
    }

    private static void stringByThePlate() {
        Hammerline x = new Hammerline();
        x.piano(39, 2, 1821);
        Checks.same("the plate bears just this", 607, x.string(0, 0, 600, 100, 3));
        Checks.same("the whole plate", 1821, x.borne(0));
        Checks.same("in place of the strings that it has", 607, x.string(0, 0, 600, 100, 3));
        Checks.refuses("one more string", UNSUPPORTED, () -> x.string(0, 1, 600, 100, 1));
        Checks.same("not strung", 0, x.strings(0, 1));
        x.string(0, 0, 600, 100, 2);
        Checks.refuses("more than what is left", UNSUPPORTED, () -> x.string(0, 1, 600, 100, 1));
        Checks.same("just what is left", 607, x.string(0, 1, 566, 100, 1));
        x.piano(39, 1, 1820);
        Checks.refuses("one too much", UNSUPPORTED, () -> x.string(1, 0, 600, 100, 3));
        Checks.same("no act of the refused", 4, x.acts());
    }

    private static void stringExceptionsInOrder() {
        Hammerline x = new Hammerline();
        x.piano(39, 2, 1000);
        Checks.refuses("no piano", INDEX, () -> x.string(1, 0, 0, 0, 0));
        Checks.refuses("piano -1", INDEX, () -> x.string(-1, 0, 600, 100, 1));
        Checks.refuses("no note", INDEX, () -> x.string(0, 2, 0, 0, 0));
        Checks.refuses("note -1", INDEX, () -> x.string(0, -1, 600, 100, 1));
        int[][] wrong = {
            {49, 100, 1}, {2001, 100, 1}, {600, 69, 1}, {600, 161, 1}, {600, 100, 0}, {600, 100, 4},
            {Integer.MAX_VALUE, 160, 3}, {2001, 160, 3}
        };
        for (int[] row : wrong) {
            Checks.refuses("string out of range", ARGUMENT, () -> x.string(0, 0, row[0], row[1], row[2]));
        }
        for (int i = 0; i < 300; i++) {
            x.adjust(0, 0, 2, 0);
        }
        Checks.refuses("out of range with 300 acts", ARGUMENT, () -> x.string(0, 0, 600, 100, 0));
        Checks.refuses("too much with 300 acts", UNSUPPORTED, () -> x.string(0, 0, 600, 100, 3));
        Checks.refuses("300 acts", STATE, () -> x.string(0, 0, 600, 100, 1));
        Checks.same("a refused one changes nothing", 0, x.strings(0, 0));
        Checks.same("minutes of 300 acts", 600, x.minutes(0));
    }

    private static void strings() {
        Hammerline x = new Hammerline();
        x.piano(39, 2, 20000);
        Checks.same("strings at first", 0, x.strings(0, 0));
        for (int count = 1; count <= 3; count++) {
            x.string(0, 1, 600, 100, count);
            Checks.same("strings", count, x.strings(0, 1));
        }
        Checks.same("strings of the other one", 0, x.strings(0, 0));
        Checks.refuses("strings(1, 0)", INDEX, () -> x.strings(1, 0));
        Checks.refuses("strings(4, 0)", INDEX, () -> x.strings(4, 0));
        Checks.refuses("strings(-1, 0)", INDEX, () -> x.strings(-1, 0));
        Checks.refuses("strings(0, 2)", INDEX, () -> x.strings(0, 2));
        Checks.refuses("strings(0, -1)", INDEX, () -> x.strings(0, -1));
    }

    private static void tension() {
        Hammerline x = new Hammerline();
        x.piano(39, 2, 250000);
        Checks.refuses("not strung", NONE, () -> x.tension(0, 0));
        Checks.refuses("no note", INDEX, () -> x.tension(0, 2));
        Checks.refuses("no piano", INDEX, () -> x.tension(2, 0));
        x.string(0, 0, 600, 100, 3);
        Checks.same("tension of one string", 607, x.tension(0, 0));
        // 1999 * 26160 / 1000 is cut to 52293; 52293 * 52293 * 153 * 153 / 4055000000 is cut to 15786
        x.string(0, 0, 1999, 153, 2);
        Checks.same("tension, cut both times", 15786, x.tension(0, 0));
        // 42614 * 42614 * 88 * 88 by 4055000000 is hardly more than 3468
        x.string(0, 0, 1629, 88, 1);
        Checks.same("tension, hardly not cut", 3468, x.tension(0, 0));
        // 47899 * 47899 * 130 * 130 by 4055000000 is hardly less than 9562
        x.piano(41, 1, 250000);
        x.string(1, 0, 1631, 130, 1);
        Checks.same("tension, hardly cut", 9561, x.tension(1, 0));
    }

    private static void load() {
        Hammerline x = new Hammerline();
        x.piano(39, 2, 250000);
        Checks.refuses("not strung", NONE, () -> x.load(0, 0));
        Checks.refuses("no note", INDEX, () -> x.load(0, -1));
        Checks.refuses("no piano", INDEX, () -> x.load(-1, 0));
        x.string(0, 0, 600, 100, 3);
        Checks.same("load", 38, x.load(0, 0));
        // 1570 * 99 * 99 / 10000 is cut to 1538; 595 * 100 / 1538 is cut to 38
        x.string(0, 0, 600, 99, 1);
        Checks.same("tension at 99", 595, x.tension(0, 0));
        Checks.same("load at 99", 38, x.load(0, 0));
        // 1570 * 71 * 71 / 10000 is 791.437: 340200 by that is 429, but by 791 it is 430
        x.string(0, 0, 2000, 71, 1);
        Checks.same("tension at 71", 3402, x.tension(0, 0));
        Checks.same("load at 71", 430, x.load(0, 0));
        int[][] due = {{256, 118, 153, 6}, {320, 106, 194, 10}, {97, 145, 33, 1}, {137, 145, 66, 2}};
        for (int[] row : due) {
            x.string(0, 0, row[0], row[1], 1);
            Checks.same("tension of a thin load", row[2], x.tension(0, 0));
            Checks.same("load near its cut", row[3], x.load(0, 0));
        }
    }

    private static void borne() {
        Hammerline x = new Hammerline();
        x.piano(39, 3, 20000);
        Checks.same("borne at first", 0, x.borne(0));
        x.string(0, 0, 600, 100, 3);
        x.string(0, 1, 570, 100, 3);
        Checks.same("borne", 3666, x.borne(0));
        x.string(0, 0, 600, 100, 1);
        Checks.same("borne with fewer strings", 2452, x.borne(0));
        x.string(0, 2, 850, 100, 3);
        int before = x.borne(0);
        int one = x.tension(0, 2);
        Checks.same("a string breaks", 2, x.play(0, 2, 9, 1));
        Checks.same("a broken string is not borne", before - one, x.borne(0));
        Checks.refuses("no piano", INDEX, () -> x.borne(1));
        Checks.refuses("piano -1", INDEX, () -> x.borne(-1));
    }
}
