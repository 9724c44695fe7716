import java.util.NoSuchElementException;

/** Promises 43 to 46, and the document's first example. */
public final class FiguresTest {
    private static final Class<IndexOutOfBoundsException> INDEX = IndexOutOfBoundsException.class;
    private static final Class<NoSuchElementException> NONE = NoSuchElementException.class;

    public static void main(String[] args) {
        checksum();
        readyShare();
        meanTone();
        isSound();
        firstExampleUpToFiling();
        firstExampleFromPlaying();
        Checks.end("FiguresTest");
    }

    private static void checksum() {
        Hammerline x = new Hammerline();
        x.piano(39, 1, 20000);
        // 31 * 7 + 50 + 60 + 5 * 20
        Checks.same("one note", 427L, x.checksum(0));
        x.string(0, 0, 955, 100, 1);
        Checks.same("strung", 427L + 1 - 1000, x.checksum(0));
        x.adjust(0, 0, 4, -9);
        x.file(0, 0);
        Checks.same("settings, hardness and felt", 427L - 999 - 9 - 5 + 2, x.checksum(0));
        x.play(0, 0, 1, 1);
        Checks.same("not strung any more", 427L - 9 - 5 + 2, x.checksum(0));
        x.piano(39, 2, 20000);
        Checks.same("two notes", 31 * 427L + 210, x.checksum(1));
        x.piano(0, 24, 20000);
        long want = 7;
        for (int i = 0; i < 24; i++) {
            want = 31 * want + 210;
        }
        Checks.same("twenty-four notes, around the long", want, x.checksum(2));
        Checks.refuses("no piano", INDEX, () -> x.checksum(3));
        Checks.refuses("piano -1", INDEX, () -> x.checksum(-1));
    }

    private static void readyShare() {
        Hammerline x = new Hammerline();
        x.piano(39, 3, 20000);
        Checks.same("none", 0.0f, x.readyShare(0));
        x.limit(0, 'a', 20);
        x.limit(0, 'p', 999);
        x.limit(0, 't', 2);
        x.string(0, 1, 600, 100, 3);
        Checks.same("by the pitch", 0.0f, x.readyShare(0));
        x.tune(0, 1, 500);
        Checks.same("one of three", 1.0f / 3.0f, x.readyShare(0));
        x.limit(0, 't', 1);
        Checks.same("by the tone", 0.0f, x.readyShare(0));
        x.limit(0, 't', 2);
        x.limit(0, 'a', 19);
        Checks.same("by the action", 0.0f, x.readyShare(0));
        x.piano(39, 1, 20000);
        x.limit(1, 'a', 999);
        x.limit(1, 'p', 999);
        x.string(1, 0, 600, 100, 3);
        x.tune(1, 0, 1);
        Checks.same("all", 1.0f, x.readyShare(1));
        Checks.refuses("no piano", INDEX, () -> x.readyShare(2));
    }

    private static void meanTone() {
        Hammerline x = new Hammerline();
        x.piano(39, 4, 20000);
        Checks.refuses("none strung", NONE, () -> x.meanTone(0));
        x.string(0, 0, 600, 100, 3);
        Checks.same("one strung", 62.0, x.meanTone(0));
        x.string(0, 1, 600, 100, 2);
        x.string(0, 3, 500, 100, 2);
        Checks.same("three strung", 178.0 / 3.0, x.meanTone(0));
        x.harden(0, 2, 50);
        Checks.same("one that is not strung", 178.0 / 3.0, x.meanTone(0));
        Checks.refuses("no piano", INDEX, () -> x.meanTone(1));
        Checks.refuses("piano -1", INDEX, () -> x.meanTone(-1));
    }

    private static void isSound() {
        Hammerline x = new Hammerline();
        Checks.same("without pianos", true, x.isSound());
        x.piano(39, 2, 1821);
        x.piano(39, 2, 20000);
        x.string(0, 0, 600, 100, 3);
        x.harden(0, 0, 50);
        x.harden(0, 0, 50);
        for (int i = 0; i < 12; i++) {
            x.file(1, 0);
        }
        for (int i = 0; i < 5; i++) {
            x.needle(1, 0, 20);
        }
        x.limit(1, 'a', 20);
        x.adjust(1, 1, 0, 9);
        Checks.same("at all edges", true, x.isSound());
        Checks.same("one to blame", 20, x.blame(1, 1, 'a'));
        x.back();
        Checks.same("with the blamed taken back", true, x.isSound());
        x.adjust(0, 1, 0, 9);
        Checks.same("with its number used again", true, x.isSound());
    }

    private static void firstExampleUpToFiling() {
        Hammerline x = example();
        Checks.same("isWithin", false, x.isWithin(0, 0, 'p'));
        Checks.same("blame", 4, x.blame(0, 0, 'p'));
        Checks.same("rateOf", 26054223L, x.rateOf(0, 0));
        Checks.same("beats", 1416L, x.beats(0, 0, 2, 1, 2));
        Checks.same("quietest", 469, x.quietest(0, 0, 1, 1, 1));
        Checks.same("setting", 20, x.setting(0, 0, 0));
        Checks.same("adjust", 4, x.adjust(0, 0, 0, -20));
        Checks.same("worst", 1, x.worst(0, 0));
        Checks.same("needle", 37, x.needle(0, 0, 3));
        Checks.same("harden", 46, x.harden(0, 0, 9));
        Checks.same("file", 55, x.file(0, 0));
        Checks.same("felt", 55, x.felt(0, 0));
        Checks.same("hardness", 48, x.hardness(0, 0));
        Checks.same("tone", 59, x.tone(0, 0));
        Checks.same("uneven", 3, x.uneven(0));
    }

    private static Hammerline example() {
        Hammerline x = new Hammerline();
        Checks.same("piano", 0, x.piano(39, 3, 20000));
        Checks.same("rate", 44000, x.rate(48));
        Checks.same("string", 607, x.string(0, 0, 600, 100, 3));
        Checks.same("string", 615, x.string(0, 1, 570, 100, 3));
        Checks.same("strings", 3, x.strings(0, 1));
        Checks.same("tension", 607, x.tension(0, 0));
        Checks.same("load", 38, x.load(0, 0));
        Checks.same("borne", 3666, x.borne(0));
        Checks.same("pitch", -1000, x.pitch(0, 1));
        Checks.same("tune", -500, x.tune(0, 0, 500));
        Checks.same("tune", -20, x.tune(0, 0, 480));
        Checks.same("pitch", -1098, x.pitch(0, 1));
        Checks.same("tune", -598, x.tune(0, 1, 500));
        return x;
    }

    private static void firstExampleFromPlaying() {
        Hammerline x = example();
        x.adjust(0, 0, 0, -20);
        x.needle(0, 0, 3);
        x.harden(0, 0, 9);
        x.file(0, 0);
        Checks.same("play", 3, x.play(0, 0, 5, 900));
        Checks.same("blows", 900, x.blows(0, 0));
        Checks.same("type", 1, x.type(1, 4));
        Checks.same("perform", 0, x.perform(0, 3));
        Checks.same("wipe", 1, x.wipe());
        Checks.same("weather", 6725, x.weather(0, 30, 80));
        Checks.same("moisture", 6725, x.moisture(0));
        Checks.same("faults", 6, x.faults(0));
        Checks.same("fault", 1, x.fault(0, 0));
        Checks.same("isReady", false, x.isReady(0));
        Checks.same("limit", 50, x.limit(0, 'p', 999));
        Checks.same("readiest", 0, x.readiest());
        Checks.same("acts", 12, x.acts());
        Checks.same("actAt", 't', x.actAt(3));
        Checks.same("pianoOf", 0, x.pianoOf(3));
        Checks.same("back", 'w', x.back());
        Checks.same("minutes", 144, x.minutes(0));
        Checks.same("checksum", 321742L, x.checksum(0));
        Checks.same("readyShare", 0.0f, x.readyShare(0));
        Checks.same("meanTone", 65.0, x.meanTone(0));
        Checks.same("isSound", true, x.isSound());
    }
}
