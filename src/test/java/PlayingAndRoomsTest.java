import java.util.NoSuchElementException;

/** Promises 23 to 29. */
public final class PlayingAndRoomsTest {
    private static final Class<IndexOutOfBoundsException> INDEX = IndexOutOfBoundsException.class;
    private static final Class<IllegalArgumentException> ARGUMENT = IllegalArgumentException.class;
    private static final Class<IllegalStateException> STATE = IllegalStateException.class;
    private static final Class<UnsupportedOperationException> UNSUPPORTED = UnsupportedOperationException.class;
    private static final Class<NoSuchElementException> NONE = NoSuchElementException.class;

    public static void main(String[] args) {
        play();
        playBreaksStrings();
        playExceptionsInOrder();
        blows();
        type();
        wipe();
        perform();
        performBreaksStrings();
        performCountsAhead();
        performExceptionsInOrder();
        weather();
        weatherByThirds();
        weatherExceptionsInOrder();
        moisture();
        Checks.end("PlayingAndRoomsTest");
    }

    private static Hammerline pair() {
        Hammerline x = new Hammerline();
        x.piano(39, 3, 20000);
        x.string(0, 0, 600, 100, 3);
        x.string(0, 1, 600, 100, 2);
        return x;
    }

    private static void fillActs(Hammerline x) {
        for (int i = x.acts(); i < 300; i++) {
            x.adjust(0, 0, 2, 0);
        }
    }

    private static void play() {
        Hammerline x = pair();
        Checks.same("play", 3, x.play(0, 0, 7, 1000));
        Checks.same("harder by 7000 / 500", 64, x.hardness(0, 0));
        Checks.same("lower by 49000 / 2000", -1024, x.pitch(0, 0));
        Checks.same("the spring less by 7000 / 1000", 13, x.setting(0, 0, 3));
        Checks.same("drop stays as the spring wears", 20, x.setting(0, 0, 2));
        Checks.same("the check stays as the spring wears", 20, x.setting(0, 0, 4));
        x.play(0, 0, 1, 499);
        Checks.same("hardness, cut", 64, x.hardness(0, 0));
        x.play(0, 0, 1, 999);
        Checks.same("hardness by 999 / 500", 65, x.hardness(0, 0));
        Checks.same("the spring, cut", 13, x.setting(0, 0, 3));
        Checks.same("pitch, cut", -1024, x.pitch(0, 0));
        x.play(0, 0, 9, 9999);
        Checks.same("hardness 100 at most", 100, x.hardness(0, 0));
        Checks.same("pitch by 809919 / 2000", -1428, x.pitch(0, 0));
        Checks.same("the spring by 89991 / 1000", -76, x.setting(0, 0, 3));
        Checks.same("another note", -1000, x.pitch(0, 1));
        Checks.same("another hammer", 50, x.hardness(0, 1));
        Checks.same("no minutes", 100, x.minutes(0));
        Checks.same("act", 'p', x.actAt(2));
        Checks.same("felt stays", 60, x.felt(0, 0));
        x.play(0, 1, 2, 500);
        Checks.same("pitch by just 2000 / 2000", -1001, x.pitch(0, 1));
        Checks.same("hardness by just 1000 / 500", 52, x.hardness(0, 1));
        Checks.same("the spring by just 1000 / 1000", 19, x.setting(0, 1, 3));
        x.play(0, 1, 1, 1999);
        Checks.same("pitch by less than one", -1001, x.pitch(0, 1));
    }

    private static void playBreaksStrings() {
        Hammerline x = new Hammerline();
        x.piano(39, 2, 20000);
        x.string(0, 0, 825, 100, 3);
        Checks.same("load", 73, x.load(0, 0));
        Checks.same("just 100", 3, x.play(0, 0, 9, 9999));
        x.string(0, 0, 830, 100, 3);
        Checks.same("load", 74, x.load(0, 0));
        Checks.same("100 with less force", 3, x.play(0, 0, 8, 9999));
        Checks.same("above 100, one for all of them", 2, x.play(0, 0, 9, 9999));
        Checks.same("one more", 1, x.play(0, 0, 9, 1));
        Checks.same("tension stays", 1162, x.tension(0, 0));
        Checks.same("tone with one string", x.hardness(0, 0) + 4, x.tone(0, 0));
        Checks.same("the last one", 0, x.play(0, 0, 9, 1));
        Checks.same("blows", 3 * 9999 + 2, x.blows(0, 0));
        Checks.refuses("not strung any more", NONE, () -> x.tension(0, 0));
        Checks.refuses("without a pitch", NONE, () -> x.pitch(0, 0));
        Checks.refuses("not played any more", UNSUPPORTED, () -> x.play(0, 0, 1, 1));
        Checks.same("borne", 0, x.borne(0));
        x.string(0, 1, 970, 100, 2);
        Checks.same("a load above 100", 1, x.play(0, 1, 1, 1));
    }

    private static void playExceptionsInOrder() {
        Hammerline x = pair();
        Checks.refuses("no piano", INDEX, () -> x.play(1, 0, 0, 0));
        Checks.refuses("no note", INDEX, () -> x.play(0, 3, 0, 0));
        Checks.refuses("note -1", INDEX, () -> x.play(0, -1, 1, 1));
        int[][] wrong = {{0, 1}, {10, 1}, {1, 0}, {1, 10000}, {-1, 1}, {1, Integer.MAX_VALUE}};
        for (int[] row : wrong) {
            Checks.refuses("play out of range", ARGUMENT, () -> x.play(0, 2, row[0], row[1]));
        }
        Checks.refuses("not strung", UNSUPPORTED, () -> x.play(0, 2, 1, 1));
        fillActs(x);
        Checks.refuses("out of range with 300 acts", ARGUMENT, () -> x.play(0, 0, 0, 1));
        Checks.refuses("not strung with 300 acts", UNSUPPORTED, () -> x.play(0, 2, 1, 1));
        Checks.refuses("300 acts", STATE, () -> x.play(0, 0, 1, 1));
        Checks.same("the refused change nothing", 0, x.blows(0, 0));
    }

    private static void blows() {
        Hammerline x = pair();
        Checks.same("at first", 0, x.blows(0, 0));
        x.play(0, 0, 1, 9999);
        x.play(0, 0, 1, 2);
        Checks.same("blows", 10001, x.blows(0, 0));
        Checks.same("the other note", 0, x.blows(0, 1));
        Checks.same("a note that is not strung", 0, x.blows(0, 2));
        Checks.refuses("no piano", INDEX, () -> x.blows(1, 0));
        Checks.refuses("no note", INDEX, () -> x.blows(0, 3));
    }

    private static void type() {
        Hammerline x = new Hammerline();
        int[][] wrong = {{-1, 1}, {24, 1}, {0, 0}, {0, 10}};
        for (int[] row : wrong) {
            Checks.refuses("type out of range", ARGUMENT, () -> x.type(row[0], row[1]));
        }
        Checks.same("the first, without any piano", 1, x.type(0, 1));
        Checks.same("edges", 2, x.type(23, 9));
        for (int i = 3; i <= 30; i++) {
            Checks.same("type " + i, i, x.type(5, 5));
        }
        Checks.refuses("31", STATE, () -> x.type(5, 5));
        Checks.refuses("31, out of range", ARGUMENT, () -> x.type(24, 5));
        Checks.same("no acts", 0, x.acts());
        Checks.same("it has 30", 30, x.wipe());
    }

    private static void wipe() {
        Hammerline x = pair();
        Checks.same("nothing to wipe", 0, x.wipe());
        x.type(0, 1);
        x.type(1, 2);
        Checks.same("two wiped", 2, x.wipe());
        Checks.same("wiped already", 0, x.wipe());
        Checks.refuses("nothing to perform", UNSUPPORTED, () -> x.perform(0, 1));
        Checks.same("typed again", 1, x.type(1, 3));
        x.perform(0, 10);
        Checks.same("the wiped are not played", 0, x.blows(0, 0));
        Checks.same("the typed is", 10, x.blows(0, 1));
        Checks.same("no act", 3, x.acts());
    }

    private static void perform() {
        Hammerline x = pair();
        x.type(0, 3);
        x.type(1, 9);
        x.type(0, 5);
        x.type(2, 4);
        x.type(23, 4);
        Checks.same("none of them ready", 0, x.perform(0, 999));
        Checks.same("blows of both times", 1998, x.blows(0, 0));
        Checks.same("blows of one", 999, x.blows(0, 1));
        Checks.same("one that is not strung", 0, x.blows(0, 2));
        // 9 * 999 / 2000 and 25 * 999 / 2000, each cut
        Checks.same("pitch, each time cut", -1016, x.pitch(0, 0));
        // 3 * 999 / 500 and 5 * 999 / 500, each cut
        Checks.same("hardness, each time cut", 64, x.hardness(0, 0));
        Checks.same("the spring, each time cut", 14, x.setting(0, 0, 3));
        Checks.same("pitch of the other one", -1040, x.pitch(0, 1));
        Checks.same("one act", 3, x.acts());
        Checks.same("act", 'c', x.actAt(2));
        Checks.same("no minutes", 100, x.minutes(0));
        x.perform(0, 1);
        Checks.same("the piece stays", 2000, x.blows(0, 0));
        Checks.same("the piece stays whole", 5, x.wipe());
    }

    private static void performBreaksStrings() {
        Hammerline x = new Hammerline();
        x.piano(39, 2, 20000);
        x.string(0, 0, 955, 100, 2);
        x.type(0, 1);
        x.type(0, 2);
        x.type(0, 3);
        x.perform(0, 4);
        Checks.same("both strings broke", 0, x.strings(0, 0));
        Checks.same("not played when not strung any more", 8, x.blows(0, 0));
        Checks.same("a piano with none of them strung", 0, x.perform(0, 1));
        Checks.same("which is an act all the same", 3, x.acts());
        Checks.same("no blows", 8, x.blows(0, 0));
    }

    private static void performCountsAhead() {
        Hammerline x = pair();
        x.limit(0, 'p', 999);
        x.limit(0, 'a', 20);
        x.tune(0, 0, 500);
        x.type(0, 9);
        x.type(1, 1);
        x.type(0, 9);
        x.type(2, 1);
        x.type(3, 1);
        Checks.same("each typed one counted", 2, x.perform(0, 999));
        x.limit(0, 'p', 400);
        Checks.same("by the pitch", 0, x.perform(0, 1));
        x.limit(0, 'p', 999);
        x.limit(0, 't', 999);
        x.limit(0, 'a', 19);
        Checks.same("by the action", 0, x.perform(0, 1));
        x.limit(0, 'a', 20);
        Checks.same("once more", 2, x.perform(0, 1));
        x.limit(0, 't', 14);
        Checks.same("by the tone", 0, x.perform(0, 1));
    }

    private static void performExceptionsInOrder() {
        Hammerline x = pair();
        Checks.refuses("no piano", INDEX, () -> x.perform(1, 0));
        Checks.refuses("piano -1", INDEX, () -> x.perform(-1, 1));
        Checks.refuses("0 times, empty", ARGUMENT, () -> x.perform(0, 0));
        Checks.refuses("1000 times", ARGUMENT, () -> x.perform(0, 1000));
        Checks.refuses("empty", UNSUPPORTED, () -> x.perform(0, 1));
        fillActs(x);
        Checks.refuses("empty with 300 acts", UNSUPPORTED, () -> x.perform(0, 1));
        x.type(0, 1);
        Checks.refuses("0 times with 300 acts", ARGUMENT, () -> x.perform(0, 0));
        Checks.refuses("300 acts", STATE, () -> x.perform(0, 1));
        Checks.same("the refused change nothing", 0, x.blows(0, 0));
    }

    private static void weather() {
        Hammerline x = pair();
        Checks.same("30 days at 80", 6725, x.weather(0, 30, 80));
        // 2225 * 3 / 200 and 2225 * 5 / 200, cut
        Checks.same("pitch in the lowest third", -967, x.pitch(0, 0));
        Checks.same("pitch in the middle third", -945, x.pitch(0, 1));
        Checks.refuses("not strung", NONE, () -> x.pitch(0, 2));
        Checks.same("driest", 29, x.weather(0, 365, 0));
        // -6696 * 3 / 200 and -6696 * 5 / 200, cut toward 0
        Checks.same("pitch falls in the lowest third", -967 - 100, x.pitch(0, 0));
        Checks.same("pitch falls in the middle third", -945 - 167, x.pitch(0, 1));
        Checks.same("wettest", 9871, x.weather(0, 365, 99));
        Checks.same("act", 'w', x.actAt(2));
        Checks.same("no minutes", 100, x.minutes(0));
        Hammerline y = pair();
        Checks.same("one day, cut toward 0", 4497, y.weather(0, 1, 44));
        Checks.same("less than one is none", -1000, y.pitch(0, 1));
        Checks.same("less than one more is none", -1000, y.pitch(0, 0));
        Checks.same("one day up", 4677, y.weather(0, 1, 99));
        Checks.same("pitch by the days of one act", -1000 + 180 * 5 / 200, y.pitch(0, 1));
    }

    private static void weatherByThirds() {
        int[][] due = {
            {3}, {3, 5}, {3, 5, 4}, {3, 3, 5, 4}, {3, 3, 5, 5, 4}, {3, 3, 5, 5, 4, 4}, {3, 3, 3, 5, 5, 4, 4}
        };
        for (int[] row : due) {
            Hammerline x = new Hammerline();
            x.piano(0, row.length, 250000);
            for (int note = 0; note < row.length; note++) {
                x.string(0, note, 500, 100, 1);
            }
            int more = x.weather(0, 365, 99) - 4500;
            for (int note = 0; note < row.length; note++) {
                Checks.same("note " + note + " of " + row.length, -1000 + more * row[note] / 200, x.pitch(0, note));
            }
        }
    }

    private static void weatherExceptionsInOrder() {
        Hammerline x = pair();
        Checks.refuses("no piano", INDEX, () -> x.weather(1, 0, 0));
        Checks.refuses("piano -1", INDEX, () -> x.weather(-1, 1, 0));
        int[][] wrong = {{0, 50}, {366, 50}, {1, -1}, {1, 100}, {Integer.MIN_VALUE, 0}};
        for (int[] row : wrong) {
            Checks.refuses("weather out of range", ARGUMENT, () -> x.weather(0, row[0], row[1]));
        }
        fillActs(x);
        Checks.refuses("out of range with 300 acts", ARGUMENT, () -> x.weather(0, 366, 50));
        Checks.refuses("300 acts", STATE, () -> x.weather(0, 1, 50));
        Checks.same("the refused change nothing", 4500, x.moisture(0));
    }

    private static void moisture() {
        Hammerline x = pair();
        x.piano(0, 1, 1000);
        Checks.same("at first", 4500, x.moisture(0));
        x.weather(0, 1, 0);
        Checks.same("a dry day", 4350, x.moisture(0));
        x.weather(0, 1, 99);
        Checks.same("a wet day after it", 4535, x.moisture(0));
        Checks.same("another piano", 4500, x.moisture(1));
        Checks.refuses("no piano", INDEX, () -> x.moisture(2));
        Checks.refuses("piano -1", INDEX, () -> x.moisture(-1));
    }
}
