import java.util.NoSuchElementException;

/** Promises 9 to 13. */
public final class PitchTest {
    private static final Class<IndexOutOfBoundsException> INDEX = IndexOutOfBoundsException.class;
    private static final Class<IllegalArgumentException> ARGUMENT = IllegalArgumentException.class;
    private static final Class<IllegalStateException> STATE = IllegalStateException.class;
    private static final Class<UnsupportedOperationException> UNSUPPORTED = UnsupportedOperationException.class;
    private static final Class<NoSuchElementException> NONE = NoSuchElementException.class;

    public static void main(String[] args) {
        pitch();
        tune();
        tuneLetsOthersFall();
        tuneExceptionsInOrder();
        rateOf();
        rateBelowNothing();
        beats();
        beatsExceptionsInOrder();
        quietest();
        quietestOfSeveral();
        quietestExceptionsInOrder();
        Checks.end("PitchTest");
    }

    private static Hammerline trio() {
        Hammerline x = new Hammerline();
        x.piano(39, 4, 20000);
        x.string(0, 0, 600, 100, 3);
        x.string(0, 1, 570, 100, 3);
        x.string(0, 2, 540, 98, 2);
        return x;
    }

    /** Keys 0 to 12 of which the first and the last are strung, an octave apart. */
    private static Hammerline octave() {
        Hammerline x = new Hammerline();
        x.piano(0, 13, 250000);
        x.string(0, 0, 600, 100, 1);
        x.string(0, 12, 600, 100, 1);
        return x;
    }

    private static void pitch() {
        Hammerline x = trio();
        Checks.same("pitch as it is strung", -1000, x.pitch(0, 2));
        x.play(0, 2, 9, 1000);
        Checks.same("pitch of a note played", -1040, x.pitch(0, 2));
        Checks.same("pitch of another note", -1000, x.pitch(0, 1));
        Checks.refuses("not strung", NONE, () -> x.pitch(0, 3));
        Checks.refuses("no note", INDEX, () -> x.pitch(0, 4));
        Checks.refuses("note -1", INDEX, () -> x.pitch(0, -1));
        Checks.refuses("no piano", INDEX, () -> x.pitch(1, 0));
        Checks.refuses("piano -1", INDEX, () -> x.pitch(-1, 0));
    }

    private static void tune() {
        Hammerline x = trio();
        Checks.same("tune by 500", -500, x.tune(0, 0, 500));
        Checks.same("tune by -500", -1000, x.tune(0, 0, -500));
        Checks.same("tune by 0", -1000, x.tune(0, 0, 0));
        Checks.same("tune by 1", -999, x.tune(0, 0, 1));
        Checks.same("acts", 7, x.acts());
        Checks.same("act", 't', x.actAt(6));
        Checks.same("minutes", 160 + 12, x.minutes(0));
    }

    private static void tuneLetsOthersFall() {
        Hammerline x = trio();
        x.tune(0, 0, 500);
        Checks.same("one away, three strings", -1050, x.pitch(0, 1));
        Checks.same("two away, three strings", -1025, x.pitch(0, 2));
        Checks.refuses("one that is not strung", NONE, () -> x.pitch(0, 3));
        x.tune(0, 2, 44);
        Checks.same("one away, two strings, cut", -1052, x.pitch(0, 1));
        Checks.same("two away, two strings, cut", -501, x.pitch(0, 0));
        x.tune(0, 0, -29);
        Checks.same("others rise, cut toward 0", -1050, x.pitch(0, 1));
        Checks.same("others two away rise, cut toward 0", -1025 + 44 + 1, x.pitch(0, 2));
        x.tune(0, 0, -9);
        Checks.same("less than one up is none", -1050, x.pitch(0, 1));
        x.tune(0, 0, 9);
        Checks.same("less than one down is none", -1050, x.pitch(0, 1));
        x.string(0, 3, 500, 90, 1);
        Checks.same("strung later, no fall before", -1000, x.pitch(0, 3));
        x.piano(39, 2, 20000);
        x.string(1, 0, 600, 100, 1);
        x.tune(0, 0, 500);
        Checks.same("another piano", -1000, x.pitch(1, 0));
    }

    private static void tuneExceptionsInOrder() {
        Hammerline x = trio();
        Checks.refuses("no piano", INDEX, () -> x.tune(1, 0, 501));
        Checks.refuses("no note", INDEX, () -> x.tune(0, 4, 501));
        Checks.refuses("note -1", INDEX, () -> x.tune(0, -1, 1));
        Checks.refuses("501", ARGUMENT, () -> x.tune(0, 3, 501));
        Checks.refuses("-501", ARGUMENT, () -> x.tune(0, 0, -501));
        Checks.refuses("not strung", UNSUPPORTED, () -> x.tune(0, 3, 500));
        Checks.same("the refused change nothing", -1000, x.pitch(0, 0));
        Checks.same("the refused are no acts", 3, x.acts());
        for (int i = x.acts(); i < 300; i++) {
            x.tune(0, 0, 0);
        }
        Checks.refuses("501 with 300 acts", ARGUMENT, () -> x.tune(0, 0, 501));
        Checks.refuses("not strung with 300 acts", UNSUPPORTED, () -> x.tune(0, 3, 1));
        Checks.refuses("300 acts", STATE, () -> x.tune(0, 0, 1));
        Checks.same("a refused one changes nothing", -1000, x.pitch(0, 0));
    }

    private static void rateOf() {
        Hammerline x = trio();
        Checks.same("rateOf as it is strung", 24648909L, x.rateOf(0, 0));
        x.tune(0, 0, 500);
        x.tune(0, 0, 500);
        Checks.same("rateOf at the proper pitch", 26160000L, x.rateOf(0, 0));
        x.piano(63, 24, 250000);
        x.string(1, 23, 50, 90, 1);
        Checks.same("rateOf beyond int times pitch", 372311600L, x.rateOf(1, 23));
        Checks.refuses("not strung", NONE, () -> x.rateOf(0, 3));
        Checks.refuses("no note", INDEX, () -> x.rateOf(0, 4));
        Checks.refuses("no piano", INDEX, () -> x.rateOf(2, 0));
    }

    private static void rateBelowNothing() {
        Hammerline x = new Hammerline();
        x.piano(39, 1, 20000);
        x.string(0, 0, 600, 100, 1);
        for (int i = 0; i < 45; i++) {
            x.play(0, 0, 9, 9999);
        }
        Checks.same("pitch far down", -19180, x.pitch(0, 0));
        Checks.same("a rate below 0 is cut toward 0", -2822717L, x.rateOf(0, 0));
        Checks.same("beats of it with itself", 2822L, x.beats(0, 0, 1, 0, 2));
    }

    private static void beats() {
        Hammerline x = trio();
        // 3 * 24648909 and 2 * 26118798 differ by 21709131
        Checks.same("beats", 21709L, x.beats(0, 0, 3, 1, 2));
        Checks.same("beats, the other way round", 21709L, x.beats(0, 1, 2, 0, 3));
        Checks.same("beats of a note with itself", 0L, x.beats(0, 0, 8, 0, 8));
        // 24648909 * 7 is 172542363
        Checks.same("beats of a note's own partials", 172542L, x.beats(0, 0, 1, 0, 8));
        Hammerline y = new Hammerline();
        y.piano(63, 24, 250000);
        y.string(0, 23, 50, 90, 1);
        // 372311600 * 7 is 2606181200
        Checks.same("beats beyond int", 2606181L, y.beats(0, 23, 8, 23, 1));
    }

    private static void beatsExceptionsInOrder() {
        Hammerline x = trio();
        Checks.refuses("no piano", INDEX, () -> x.beats(1, 0, 0, 1, 1));
        Checks.refuses("no note", INDEX, () -> x.beats(0, 4, 0, 1, 1));
        Checks.refuses("no other note", INDEX, () -> x.beats(0, 0, 0, 4, 1));
        Checks.refuses("other note -1", INDEX, () -> x.beats(0, 3, 9, -1, 9));
        int[][] wrong = {{0, 1}, {9, 1}, {1, 0}, {1, 9}, {-1, 1}, {1, Integer.MIN_VALUE}};
        for (int[] row : wrong) {
            Checks.refuses("partial out of range", ARGUMENT, () -> x.beats(0, 3, row[0], 1, row[1]));
        }
        Checks.refuses("not strung", NONE, () -> x.beats(0, 3, 1, 0, 1));
        Checks.refuses("other not strung", NONE, () -> x.beats(0, 0, 1, 3, 1));
    }

    private static void quietest() {
        Hammerline x = new Hammerline();
        x.piano(39, 8, 250000);
        for (int note : new int[] {0, 1, 7}) {
            x.string(0, note, 600, 100, 1);
        }
        Checks.same("a fifth", -17, x.quietest(0, 0, 3, 7, 2));
        Checks.same("asking tunes none", -1000, x.pitch(0, 0));
        Checks.same("asking is no act", 3, x.acts());
        Checks.same("as far down as may be", -500, x.quietest(0, 0, 8, 1, 1));
        Checks.same("as far up as may be", 500, x.quietest(0, 0, 1, 1, 8));
        x.tune(0, 0, -16);
        Checks.same("a fifth, one down", -1, x.quietest(0, 0, 3, 7, 2));
        x.tune(0, 0, -1);
        Checks.same("a fifth, as quiet as may be", 0, x.quietest(0, 0, 3, 7, 2));
        x.tune(0, 0, -1);
        Checks.same("a fifth, one up", 1, x.quietest(0, 0, 3, 7, 2));
    }

    private static void quietestOfSeveral() {
        Hammerline x = octave();
        Checks.same("of -3 to 3", 0, x.quietest(0, 0, 2, 12, 1));
        x.tune(0, 0, 100);
        Checks.same("of -103 to -97", -97, x.quietest(0, 0, 2, 12, 1));
        Checks.same("of 97 to 103", 97, x.quietest(0, 12, 1, 0, 2));
        x.tune(0, 0, -200);
        Checks.same("of 97 to 103, a note that is down", 97, x.quietest(0, 0, 2, 12, 1));
        Checks.same("of -103 to -97, a note that is up", -97, x.quietest(0, 12, 1, 0, 2));
        Checks.same("of 498 and more", 498, x.quietest(0, 0, 1, 12, 1));
    }

    private static void quietestExceptionsInOrder() {
        Hammerline x = trio();
        Checks.refuses("no piano", INDEX, () -> x.quietest(1, 0, 0, 0, 1));
        Checks.refuses("no note", INDEX, () -> x.quietest(0, 4, 0, 4, 1));
        Checks.refuses("no other note", INDEX, () -> x.quietest(0, 0, 0, -1, 1));
        int[][] wrong = {{0, 1}, {9, 1}, {1, 0}, {1, 9}};
        for (int[] row : wrong) {
            Checks.refuses("partial out of range", ARGUMENT, () -> x.quietest(0, 3, row[0], 1, row[1]));
        }
        Checks.refuses("the same note", ARGUMENT, () -> x.quietest(0, 0, 1, 0, 2));
        Checks.refuses("the same note, not strung", ARGUMENT, () -> x.quietest(0, 3, 1, 3, 1));
        Checks.refuses("not strung", NONE, () -> x.quietest(0, 3, 1, 0, 1));
        Checks.refuses("other not strung", NONE, () -> x.quietest(0, 0, 1, 3, 1));
    }
}
