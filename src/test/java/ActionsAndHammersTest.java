import java.util.NoSuchElementException;

/** Promises 14 to 22. */
public final class ActionsAndHammersTest {
    private static final Class<IndexOutOfBoundsException> INDEX = IndexOutOfBoundsException.class;
    private static final Class<IllegalArgumentException> ARGUMENT = IllegalArgumentException.class;
    private static final Class<IllegalStateException> STATE = IllegalStateException.class;
    private static final Class<UnsupportedOperationException> UNSUPPORTED = UnsupportedOperationException.class;
    private static final Class<NoSuchElementException> NONE = NoSuchElementException.class;

    public static void main(String[] args) {
        setting();
        adjust();
        adjustReturns();
        adjustExceptionsInOrder();
        hardness();
        felt();
        needle();
        needleExceptionsInOrder();
        harden();
        hardenExceptionsInOrder();
        file();
        fileExceptionsInOrder();
        tone();
        uneven();
        Checks.end("ActionsAndHammersTest");
    }

    private static Hammerline pair() {
        Hammerline x = new Hammerline();
        x.piano(39, 2, 20000);
        return x;
    }

    private static void settingsAre(String what, Hammerline x, int... want) {
        for (int i = 0; i < want.length; i++) {
            Checks.same(what + ", setting " + i, want[i], x.setting(0, 0, i));
        }
    }

    private static void fillActs(Hammerline x) {
        for (int i = x.acts(); i < 300; i++) {
            x.adjust(0, 0, 2, 0);
        }
    }

    private static void setting() {
        Hammerline x = pair();
        settingsAre("at first", x, 20, 20, 20, 20, 20);
        Checks.refuses("no piano", INDEX, () -> x.setting(1, 0, 5));
        Checks.refuses("no note", INDEX, () -> x.setting(0, 2, 5));
        Checks.refuses("setting 5", ARGUMENT, () -> x.setting(0, 0, 5));
        Checks.refuses("setting -1", ARGUMENT, () -> x.setting(0, 0, -1));
    }

    private static void adjust() {
        Hammerline x = pair();
        x.adjust(0, 0, 0, 19);
        settingsAre("capstan up", x, 39, 11, 15, 23, 13);
        x.adjust(0, 0, 0, -19);
        settingsAre("capstan down again", x, 20, 20, 20, 20, 20);
        x.adjust(0, 0, 0, -1);
        settingsAre("less than a tenth is none", x, 19, 20, 20, 20, 20);
        x.adjust(0, 0, 1, 7);
        settingsAre("let-off", x, 19, 27, 22, 20, 20);
        x.adjust(0, 0, 2, -50);
        settingsAre("drop", x, 19, 27, -28, 20, 20);
        x.adjust(0, 0, 3, -19);
        settingsAre("the spring", x, 19, 27, -33, 1, 19);
        x.adjust(0, 0, 4, 50);
        settingsAre("the check", x, 19, 27, -33, 1, 69);
        Checks.same("the other note", 20, x.setting(0, 1, 0));
        int[][] due = {
            {70, -5, 5, 30, 0}, {20, 70, 40, 20, 20}, {20, 20, 70, 20, 20}, {20, 20, 35, 70, 25}, {20, 20, 20, 20, 70}
        };
        for (int setting = 0; setting < 5; setting++) {
            Hammerline y = pair();
            y.adjust(0, 0, setting, 50);
            settingsAre("setting " + setting + " by 50", y, due[setting]);
            y.back();
            y.adjust(0, 0, setting, -50);
            for (int i = 0; i < 5; i++) {
                Checks.same("setting " + i + " as much the other way", 40 - due[setting][i], y.setting(0, 0, i));
            }
        }
        Checks.same("act", 'a', x.actAt(6));
        Checks.same("minutes", 14, x.minutes(0));
    }

    private static void adjustReturns() {
        Hammerline x = pair();
        Checks.same("all beyond", 5, x.adjust(0, 0, 2, 0));
        Checks.same("just at the limit", 4, x.adjust(0, 0, 2, -10));
        Checks.same("below 0 at the limit", 4, x.adjust(0, 0, 2, -20));
        Checks.same("below 0 beyond", 5, x.adjust(0, 0, 2, -1));
        x.limit(0, 'a', 20);
        Checks.same("by the limit that is told", 0, x.adjust(0, 0, 2, 0));
        x.limit(0, 'a', 0);
        Checks.same("by the limit 0", 5, x.adjust(0, 0, 2, 0));
        Checks.same("by the limit 0, one at 0", 4, x.adjust(0, 0, 2, 11));
    }

    private static void adjustExceptionsInOrder() {
        Hammerline x = pair();
        Checks.refuses("no piano", INDEX, () -> x.adjust(1, 0, 5, 0));
        Checks.refuses("no note", INDEX, () -> x.adjust(0, 2, 0, 51));
        Checks.refuses("note -1", INDEX, () -> x.adjust(0, -1, 0, 1));
        Checks.refuses("setting 5", ARGUMENT, () -> x.adjust(0, 0, 5, 1));
        Checks.refuses("setting -1", ARGUMENT, () -> x.adjust(0, 0, -1, 1));
        Checks.refuses("51", ARGUMENT, () -> x.adjust(0, 0, 0, 51));
        Checks.refuses("-51", ARGUMENT, () -> x.adjust(0, 0, 0, -51));
        settingsAre("the refused change nothing", x, 20, 20, 20, 20, 20);
        fillActs(x);
        Checks.refuses("51 with 300 acts", ARGUMENT, () -> x.adjust(0, 0, 0, 51));
        Checks.refuses("300 acts", STATE, () -> x.adjust(0, 0, 0, 1));
        settingsAre("refused for its number", x, 20, 20, 20, 20, 20);
    }

    private static void hardness() {
        Hammerline x = pair();
        Checks.same("at first", 50, x.hardness(0, 1));
        x.harden(0, 1, 3);
        Checks.same("hardened", 53, x.hardness(0, 1));
        Checks.same("the other one", 50, x.hardness(0, 0));
        Checks.refuses("no piano", INDEX, () -> x.hardness(1, 0));
        Checks.refuses("no note", INDEX, () -> x.hardness(0, 2));
        Checks.refuses("note -1", INDEX, () -> x.hardness(0, -1));
    }

    private static void felt() {
        Hammerline x = pair();
        Checks.same("at first", 60, x.felt(0, 1));
        x.file(0, 1);
        Checks.same("filed", 55, x.felt(0, 1));
        Checks.same("the other one", 60, x.felt(0, 0));
        Checks.refuses("no piano", INDEX, () -> x.felt(-1, 0));
        Checks.refuses("no note", INDEX, () -> x.felt(0, 2));
    }

    private static void needle() {
        Hammerline x = pair();
        Checks.same("once", 45, x.needle(0, 0, 1));
        Checks.same("a tenth, cut, each time", 37, x.needle(0, 0, 2));
        // 37 34 31 28 26 24 22 20 18 17 16 15 14 13 12 11 10 9 8 7 6
        Checks.same("twenty times", 6, x.needle(0, 0, 20));
        Checks.same("one at least", 5, x.needle(0, 0, 1));
        Checks.same("as long as it is above 0", 0, x.needle(0, 0, 7));
        Checks.same("at 0", 0, x.needle(0, 0, 3));
        Checks.same("minutes by what is told", 1 + 2 + 20 + 1 + 7 + 3, x.minutes(0));
        Checks.same("act", 'n', x.actAt(5));
        Checks.same("felt stays", 60, x.felt(0, 0));
    }

    private static void needleExceptionsInOrder() {
        Hammerline x = pair();
        Checks.refuses("no piano", INDEX, () -> x.needle(1, 0, 0));
        Checks.refuses("no note", INDEX, () -> x.needle(0, 2, 0));
        Checks.refuses("0 times", ARGUMENT, () -> x.needle(0, 0, 0));
        Checks.refuses("21 times", ARGUMENT, () -> x.needle(0, 0, 21));
        fillActs(x);
        Checks.refuses("21 times with 300 acts", ARGUMENT, () -> x.needle(0, 0, 21));
        Checks.refuses("300 acts", STATE, () -> x.needle(0, 0, 1));
        Checks.same("the refused change nothing", 50, x.hardness(0, 0));
    }

    private static void harden() {
        Hammerline x = pair();
        Checks.same("by 1", 51, x.harden(0, 0, 1));
        Checks.same("by 49", 100, x.harden(0, 0, 49));
        Checks.same("100 at most", 100, x.harden(0, 0, 50));
        x.needle(0, 0, 1);
        Checks.same("100 at most, from 90", 100, x.harden(0, 0, 11));
        Checks.same("minutes", 17, x.minutes(0));
        Checks.same("act", 'h', x.actAt(0));
    }

    private static void hardenExceptionsInOrder() {
        Hammerline x = pair();
        Checks.refuses("no piano", INDEX, () -> x.harden(1, 0, 0));
        Checks.refuses("no note", INDEX, () -> x.harden(0, 2, 51));
        Checks.refuses("by 0", ARGUMENT, () -> x.harden(0, 0, 0));
        Checks.refuses("by 51", ARGUMENT, () -> x.harden(0, 0, 51));
        fillActs(x);
        Checks.refuses("by 51 with 300 acts", ARGUMENT, () -> x.harden(0, 0, 51));
        Checks.refuses("300 acts", STATE, () -> x.harden(0, 0, 1));
        Checks.same("the refused change nothing", 50, x.hardness(0, 0));
    }

    private static void file() {
        Hammerline x = pair();
        Checks.same("file", 55, x.file(0, 0));
        Checks.same("harder by 2", 52, x.hardness(0, 0));
        x.harden(0, 0, 47);
        Checks.same("file again", 50, x.file(0, 0));
        Checks.same("100 at most", 100, x.hardness(0, 0));
        for (int left = 45; left >= 0; left -= 5) {
            Checks.same("file to " + left, left, x.file(0, 0));
        }
        Checks.refuses("no felt", UNSUPPORTED, () -> x.file(0, 0));
        Checks.same("minutes", 12 * 6 + 4, x.minutes(0));
        Checks.same("act", 'f', x.actAt(0));
        Checks.same("acts", 13, x.acts());
    }

    private static void fileExceptionsInOrder() {
        Hammerline x = pair();
        Checks.refuses("no piano", INDEX, () -> x.file(1, 0));
        Checks.refuses("no note", INDEX, () -> x.file(0, 2));
        Checks.refuses("note -1", INDEX, () -> x.file(0, -1));
        for (int i = 0; i < 12; i++) {
            x.file(0, 1);
        }
        fillActs(x);
        Checks.refuses("no felt with 300 acts", UNSUPPORTED, () -> x.file(0, 1));
        Checks.refuses("300 acts", STATE, () -> x.file(0, 0));
        Checks.same("the refused change nothing", 60, x.felt(0, 0));
    }

    private static void tone() {
        Hammerline x = pair();
        Checks.refuses("not strung", NONE, () -> x.tone(0, 0));
        Checks.refuses("no note", INDEX, () -> x.tone(0, 2));
        Checks.refuses("no piano", INDEX, () -> x.tone(1, 0));
        x.string(0, 0, 600, 100, 1);
        Checks.same("one string", 54, x.tone(0, 0));
        x.string(0, 0, 600, 100, 3);
        Checks.same("three strings", 62, x.tone(0, 0));
        x.file(0, 0);
        Checks.same("a fifth of what is missing", 52 + 12 - 1, x.tone(0, 0));
        x.file(0, 0);
        x.file(0, 0);
        Checks.same("a fifth of fifteen", 56 + 12 - 3, x.tone(0, 0));
        x.needle(0, 0, 20);
        Checks.same("by its hardness", x.hardness(0, 0) + 9, x.tone(0, 0));
        for (int i = 0; i < 9; i++) {
            x.file(0, 0);
        }
        Checks.same("a fifth of sixty", x.hardness(0, 0) + 12 - 12, x.tone(0, 0));
    }

    private static void uneven() {
        Hammerline x = new Hammerline();
        x.piano(39, 5, 20000);
        Checks.same("none strung", 0, x.uneven(0));
        x.string(0, 1, 600, 100, 1);
        Checks.same("one strung", 0, x.uneven(0));
        x.string(0, 4, 500, 100, 3);
        Checks.same("none between them strung", 8, x.uneven(0));
        x.string(0, 2, 500, 100, 2);
        Checks.same("one between them strung", 4, x.uneven(0));
        x.harden(0, 2, 40);
        Checks.same("up and down", 44, x.uneven(0));
        x.needle(0, 2, 20);
        int between = x.tone(0, 2);
        Checks.same("down and up", 62 - between, x.uneven(0));
        x.harden(0, 0, 50);
        Checks.same("one that is not strung", 62 - between, x.uneven(0));
        Checks.refuses("no piano", INDEX, () -> x.uneven(1));
        x.piano(39, 2, 20000);
        x.string(1, 0, 600, 100, 3);
        x.string(1, 1, 600, 100, 1);
        Checks.same("down alone", 8, x.uneven(1));
    }
}
