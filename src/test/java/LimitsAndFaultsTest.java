import java.util.NoSuchElementException;

/** Promises 30 to 37. */
public final class LimitsAndFaultsTest {
    private static final Class<IndexOutOfBoundsException> INDEX = IndexOutOfBoundsException.class;
    private static final Class<IllegalArgumentException> ARGUMENT = IllegalArgumentException.class;
    private static final Class<NoSuchElementException> NONE = NoSuchElementException.class;

    public static void main(String[] args) {
        limit();
        isWithinPitch();
        isWithinAction();
        isWithinTone();
        isWithinExceptionsInOrder();
        worst();
        faults();
        fault();
        isReady();
        readiest();
        blame();
        blameOfAnElderAct();
        blameByTheLimitThen();
        blameOfAWholeAct();
        blameOfEachKind();
        blameExceptionsInOrder();
        Checks.end("LimitsAndFaultsTest");
    }

    private static Hammerline pair() {
        Hammerline x = new Hammerline();
        x.piano(39, 2, 20000);
        x.string(0, 0, 600, 100, 3);
        return x;
    }

    /** Tunes note 0 of piano 0 as far as may be in some acts. */
    private static void tuneTo(Hammerline x, int pitch) {
        while (x.pitch(0, 0) != pitch) {
            x.tune(0, 0, Math.max(-500, Math.min(500, pitch - x.pitch(0, 0))));
        }
    }

    private static void settle(Hammerline x, int piano, int note) {
        for (int setting : new int[] {0, 1, 3, 2, 4}) {
            x.adjust(piano, note, setting, -x.setting(piano, note, setting));
        }
    }

    private static void limit() {
        Hammerline x = pair();
        x.piano(0, 1, 1000);
        Checks.same("p at first", 50, x.limit(0, 'p', 0));
        Checks.same("a at first", 10, x.limit(0, 'a', 999));
        Checks.same("t at first", 15, x.limit(0, 't', 1));
        Checks.same("p before", 0, x.limit(0, 'p', 7));
        Checks.same("a before", 999, x.limit(0, 'a', 7));
        Checks.same("t before", 1, x.limit(0, 't', 7));
        Checks.same("another piano", 50, x.limit(1, 'p', 7));
        Checks.same("no act", 1, x.acts());
        Checks.refuses("no piano", INDEX, () -> x.limit(2, 'x', -1));
        Checks.refuses("piano -1", INDEX, () -> x.limit(-1, 'p', 1));
        for (char what : new char[] {'x', 'P', 0, 'q', 65535}) {
            Checks.refuses("no such limit", ARGUMENT, () -> x.limit(0, what, 1));
        }
        Checks.refuses("-1", ARGUMENT, () -> x.limit(0, 'p', -1));
        Checks.refuses("1000", ARGUMENT, () -> x.limit(0, 't', 1000));
        Checks.same("the refused change nothing", 7, x.limit(0, 'p', 8));
    }

    private static void isWithinPitch() {
        Hammerline x = pair();
        Checks.same("as it is strung", false, x.isWithin(0, 0, 'p'));
        tuneTo(x, -51);
        Checks.same("-51", false, x.isWithin(0, 0, 'p'));
        tuneTo(x, -50);
        Checks.same("-50", true, x.isWithin(0, 0, 'p'));
        tuneTo(x, 50);
        Checks.same("50", true, x.isWithin(0, 0, 'p'));
        tuneTo(x, 51);
        Checks.same("51", false, x.isWithin(0, 0, 'p'));
        x.limit(0, 'p', 51);
        Checks.same("51 by a limit of 51", true, x.isWithin(0, 0, 'p'));
        x.limit(0, 'p', 999);
        Checks.same("not strung", false, x.isWithin(0, 1, 'p'));
    }

    private static void isWithinAction() {
        Hammerline x = pair();
        Checks.same("at first", false, x.isWithin(0, 0, 'a'));
        x.limit(0, 'a', 20);
        Checks.same("at the limit", true, x.isWithin(0, 0, 'a'));
        Checks.same("not strung", true, x.isWithin(0, 1, 'a'));
        for (int setting = 0; setting < 5; setting++) {
            Hammerline y = pair();
            y.limit(0, 'a', 50);
            y.adjust(0, 0, setting, 31);
            Checks.same("one of them beyond", false, y.isWithin(0, 0, 'a'));
            y.back();
            y.limit(0, 'a', 20);
            y.adjust(0, 0, setting, -41);
            Checks.same("one of them beyond, below 0", false, y.isWithin(0, 0, 'a'));
        }
    }

    private static void isWithinTone() {
        Hammerline x = pair();
        Checks.same("62", true, x.isWithin(0, 0, 't'));
        x.harden(0, 0, 13);
        Checks.same("75", true, x.isWithin(0, 0, 't'));
        x.harden(0, 0, 1);
        Checks.same("76", false, x.isWithin(0, 0, 't'));
        x.limit(0, 't', 16);
        Checks.same("76 by a limit of 16", true, x.isWithin(0, 0, 't'));
        x.limit(0, 't', 15);
        x.needle(0, 0, 7);
        Checks.same("33 and 12", 33, x.hardness(0, 0));
        Checks.same("45", true, x.isWithin(0, 0, 't'));
        x.needle(0, 0, 1);
        Checks.same("42", false, x.isWithin(0, 0, 't'));
        x.limit(0, 't', 999);
        Checks.same("not strung", false, x.isWithin(0, 1, 't'));
    }

    private static void isWithinExceptionsInOrder() {
        Hammerline x = pair();
        Checks.refuses("no piano", INDEX, () -> x.isWithin(1, 0, 'x'));
        Checks.refuses("no note", INDEX, () -> x.isWithin(0, 2, 'x'));
        Checks.refuses("note -1", INDEX, () -> x.isWithin(0, -1, 'p'));
        for (char what : new char[] {'x', 'A', 0, 'o', 'b', 'u', 65535}) {
            Checks.refuses("no such limit", ARGUMENT, () -> x.isWithin(0, 0, what));
        }
    }

    private static void worst() {
        Hammerline x = pair();
        Checks.same("of several the lowest one", 0, x.worst(0, 0));
        x.adjust(0, 0, 3, 1);
        Checks.same("the farthest", 3, x.worst(0, 0));
        x.adjust(0, 0, 4, -42);
        Checks.same("the farthest below 0", 4, x.worst(0, 0));
        x.adjust(0, 0, 1, 2);
        Checks.same("of a tie of both signs the lowest one", 1, x.worst(0, 0));
        settle(x, 0, 0);
        Checks.same("all where they should be", 0, x.worst(0, 0));
        Checks.same("one that is not strung", 0, x.worst(0, 1));
        Checks.refuses("no piano", INDEX, () -> x.worst(1, 0));
        Checks.refuses("no note", INDEX, () -> x.worst(0, 2));
    }

    private static void faults() {
        Hammerline x = pair();
        Checks.same("one strung, one not", 5, x.faults(0));
        x.limit(0, 'a', 20);
        Checks.same("without those of the action", 3, x.faults(0));
        tuneTo(x, 0);
        Checks.same("tuned", 2, x.faults(0));
        x.harden(0, 0, 50);
        Checks.same("too hard", 3, x.faults(0));
        x.piano(0, 24, 1000);
        Checks.same("nothing strung", 72, x.faults(1));
        Checks.refuses("no piano", INDEX, () -> x.faults(2));
        Checks.refuses("piano -1", INDEX, () -> x.faults(-1));
    }

    private static void fault() {
        Hammerline x = pair();
        int[] due = {0, 1, 10, 11, 12};
        for (int i = 0; i < due.length; i++) {
            Checks.same("fault " + i, due[i], x.fault(0, i));
        }
        Checks.refuses("fault 5", NONE, () -> x.fault(0, 5));
        Checks.refuses("fault -1", NONE, () -> x.fault(0, -1));
        Checks.refuses("a far fault", NONE, () -> x.fault(0, Integer.MAX_VALUE));
        Checks.refuses("a far fault below 0", NONE, () -> x.fault(0, Integer.MIN_VALUE));
        x.harden(0, 0, 50);
        Checks.same("a tone", 2, x.fault(0, 2));
        x.limit(0, 'a', 999);
        Checks.same("without those of the action", 12, x.fault(0, 3));
        Checks.refuses("no piano", INDEX, () -> x.fault(1, -1));
        x.piano(0, 24, 1000);
        Checks.same("the last one", 232, x.fault(1, 71));
        Checks.refuses("none behind the last one", NONE, () -> x.fault(1, 72));
    }

    private static void isReady() {
        Hammerline x = new Hammerline();
        x.piano(39, 1, 20000);
        Checks.same("not strung", false, x.isReady(0));
        x.string(0, 0, 600, 100, 3);
        tuneTo(x, 0);
        Checks.same("the action", false, x.isReady(0));
        settle(x, 0, 0);
        Checks.same("ready", true, x.isReady(0));
        x.limit(0, 't', 1);
        Checks.same("by the tone", false, x.isReady(0));
        Checks.refuses("no piano", INDEX, () -> x.isReady(1));
        Checks.refuses("piano -1", INDEX, () -> x.isReady(-1));
    }

    private static void readiest() {
        Hammerline x = new Hammerline();
        Checks.refuses("none", NONE, x::readiest);
        x.piano(39, 2, 20000);
        Checks.same("one", 0, x.readiest());
        x.piano(39, 2, 20000);
        Checks.same("of several the lowest", 0, x.readiest());
        x.piano(39, 1, 20000);
        Checks.same("the fewest", 2, x.readiest());
        x.piano(39, 1, 20000);
        Checks.same("of several fewest the lowest", 2, x.readiest());
        x.limit(3, 'a', 20);
        Checks.same("the last one", 3, x.readiest());
        x.limit(0, 'a', 20);
        x.limit(2, 'a', 20);
        Checks.same("fewest, not the greatest share", 2, x.readiest());
    }

    private static void blame() {
        Hammerline x = pair();
        Checks.refuses("never within", NONE, () -> x.blame(0, 0, 'p'));
        tuneTo(x, 0);
        Checks.refuses("within", NONE, () -> x.blame(0, 0, 'p'));
        x.string(0, 1, 570, 100, 3);
        x.tune(0, 1, 500);
        Checks.refuses("at the limit", NONE, () -> x.blame(0, 0, 'p'));
        x.tune(0, 1, 10);
        Checks.same("another note's tuning", 5, x.blame(0, 0, 'p'));
        x.tune(0, 1, 100);
        Checks.same("not one that found it beyond", 5, x.blame(0, 0, 'p'));
        tuneTo(x, 0);
        Checks.refuses("mended", NONE, () -> x.blame(0, 0, 'p'));
        x.string(0, 0, 600, 100, 3);
        Checks.same("the last one", 8, x.blame(0, 0, 'p'));
        Checks.refuses("of another limit none", NONE, () -> x.blame(0, 0, 'a'));
        Checks.refuses("of another note none", NONE, () -> x.blame(0, 1, 'p'));
    }

    private static void blameOfAnElderAct() {
        Hammerline x = pair();
        x.limit(0, 'a', 30);
        x.adjust(0, 0, 2, 20);
        Checks.same("beyond", 1, x.blame(0, 0, 'a'));
        x.limit(0, 'a', 40);
        Checks.refuses("within by another limit", NONE, () -> x.blame(0, 0, 'a'));
        x.adjust(0, 0, 4, 1);
        x.limit(0, 'a', 30);
        Checks.same("the elder act again", 1, x.blame(0, 0, 'a'));
        x.adjust(0, 0, 2, -20);
        x.limit(0, 'a', 5);
        Checks.same("the elder act, for what it did not do", 1, x.blame(0, 0, 'a'));
    }

    private static void blameByTheLimitThen() {
        Hammerline x = pair();
        x.limit(0, 'a', 20);
        x.adjust(0, 0, 2, 1);
        x.limit(0, 'a', 30);
        x.adjust(0, 0, 2, 20);
        Checks.same("by the limit as it was then", 2, x.blame(0, 0, 'a'));
        x.limit(0, 'a', 40);
        x.adjust(0, 0, 2, -1);
        x.limit(0, 'a', 20);
        Checks.same("never an act by no limit of its time", 2, x.blame(0, 0, 'a'));
        Hammerline y = pair();
        y.adjust(0, 0, 2, 20);
        y.limit(0, 'a', 30);
        Checks.refuses("a limit that is told is to blame for nothing", NONE, () -> y.blame(0, 0, 'a'));
    }

    private static void blameOfAWholeAct() {
        Hammerline x = pair();
        x.string(0, 1, 955, 100, 1);
        x.type(1, 1);
        x.type(0, 1);
        Checks.same("within ahead of it", true, x.isWithin(0, 1, 't'));
        x.perform(0, 1);
        Checks.same("the last string broke in it", 2, x.blame(0, 1, 't'));
        Checks.refuses("never within", NONE, () -> x.blame(0, 1, 'p'));
        Hammerline y = new Hammerline();
        y.piano(39, 1, 20000);
        y.string(0, 0, 955, 100, 3);
        y.needle(0, 0, 4);
        Checks.same("tone ahead of it", 34 + 12, y.tone(0, 0));
        y.type(0, 1);
        y.type(0, 9);
        y.type(0, 9);
        y.perform(0, 999);
        Checks.same("within behind it, as a whole", 35 + 17 + 17, y.hardness(0, 0));
        Checks.refuses("not strung", NONE, () -> y.tone(0, 0));
        Checks.same("but not strung", 2, y.blame(0, 0, 't'));
        Hammerline z = new Hammerline();
        z.piano(39, 1, 20000);
        z.string(0, 0, 955, 100, 3);
        z.needle(0, 0, 4);
        z.limit(0, 't', 14);
        z.type(0, 1);
        z.type(0, 9);
        z.perform(0, 999);
        Checks.same("out of it and into it again", true, z.isWithin(0, 0, 't'));
        z.limit(0, 't', 0);
        Checks.refuses("what lies within an act is no matter", NONE, () -> z.blame(0, 0, 't'));
    }

    private static void blameOfEachKind() {
        Hammerline x = pair();
        tuneTo(x, 0);
        x.weather(0, 365, 99);
        Checks.same("weather", 3, x.blame(0, 0, 'p'));
        x.back();
        x.play(0, 0, 9, 9999);
        Checks.same("play, by the pitch", 3, x.blame(0, 0, 'p'));
        Checks.same("play, by the tone", 3, x.blame(0, 0, 't'));
        x.back();
        x.limit(0, 'a', 20);
        x.play(0, 0, 9, 9999);
        Checks.same("play, by the spring", 3, x.blame(0, 0, 'a'));
        x.back();
        x.tune(0, 0, 51);
        Checks.same("tune", 3, x.blame(0, 0, 'p'));
        x.harden(0, 0, 14);
        Checks.same("harden", 4, x.blame(0, 0, 't'));
        x.back();
        x.needle(0, 0, 20);
        Checks.same("needle", 4, x.blame(0, 0, 't'));
        x.back();
        x.limit(0, 't', 2);
        x.file(0, 0);
        Checks.same("file", 4, x.blame(0, 0, 't'));
        x.back();
        x.limit(0, 't', 1);
        x.string(0, 0, 600, 100, 2);
        x.string(0, 0, 600, 100, 3);
        Checks.refuses("string, out of it already", NONE, () -> x.blame(0, 0, 't'));
        x.back();
        x.limit(0, 't', 2);
        x.string(0, 0, 600, 100, 1);
        Checks.same("string", 5, x.blame(0, 0, 't'));
        x.adjust(0, 0, 0, 1);
        Checks.same("adjust", 6, x.blame(0, 0, 'a'));
    }

    private static void blameExceptionsInOrder() {
        Hammerline x = pair();
        Checks.refuses("no piano", INDEX, () -> x.blame(1, 0, 'x'));
        Checks.refuses("no note", INDEX, () -> x.blame(0, 2, 'x'));
        Checks.refuses("note -1", INDEX, () -> x.blame(0, -1, 'p'));
        for (char what : new char[] {'x', 'T', 0, 65535}) {
            Checks.refuses("no such limit", ARGUMENT, () -> x.blame(0, 0, what));
        }
        Checks.refuses("no act is to blame", NONE, () -> x.blame(0, 1, 'p'));
    }
}
