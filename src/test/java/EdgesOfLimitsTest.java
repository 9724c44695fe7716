/** Promises 30 to 37, at each edge that the document names. */
public final class EdgesOfLimitsTest {
    public static void main(String[] args) {
        limitRange();
        limitsOfEachPiano();
        withinThePitch();
        withinTheAction();
        withinTheTone();
        withinNothing();
        withinWhatIsNotThere();
        worst();
        faultsOfAll();
        faultsOfNone();
        faultIndexes();
        ready();
        readiest();
        readiestOfFour();
        blameOfNone();
        blameAtTheLimit();
        blameOfTheFirstAct();
        blameOfTheLastAct();
        blameAgain();
        blameByLimits();
        blameOfAct299();
        Checks.end("EdgesOfLimitsTest");
    }

    private static void limitRange() {
        Script.run("promise 30, 'p', 'a' or 't', 0 to 999", """
            limit(0, 'p', 0) throws IndexOutOfBounds
            piano(39, 1, 20000) = 0
            limit(0, 'p', -1) throws IllegalArgument
            limit(0, 'a', 1000) throws IllegalArgument
            limit(0, 't', least) throws IllegalArgument
            limit(0, 't', most) throws IllegalArgument
            limit(0, 'P', 1) throws IllegalArgument
            limit(0, 'o', 1) throws IllegalArgument
            limit(0, 'q', 1) throws IllegalArgument
            limit(0, 'b', 1) throws IllegalArgument
            limit(0, 's', 1) throws IllegalArgument
            limit(0, 0, 1) throws IllegalArgument
            limit(0, 368, 1) throws IllegalArgument
            limit(0, 65535, 1) throws IllegalArgument
            limit(0, 'x', 1000) throws IllegalArgument
            limit(1, 'x', -1) throws IndexOutOfBounds
            limit(-1, 'p', 1) throws IndexOutOfBounds
            limit(0, 'p', 0) = 50
            limit(0, 'p', 999) = 0
            limit(0, 'p', 50) = 999
            limit(0, 'a', 0) = 10
            limit(0, 'a', 999) = 0
            limit(0, 'a', 10) = 999
            limit(0, 't', 0) = 15
            limit(0, 't', 999) = 0
            limit(0, 't', 15) = 999
            acts() = 0
            """);
    }

    private static void limitsOfEachPiano() {
        Script.run("promise 30, each piano has three", """
            piano(39, 1, 20000) = 0
            piano(39, 1, 20000) = 1
            limit(0, 'p', 1) = 50
            limit(0, 'a', 2) = 10
            limit(0, 't', 3) = 15
            limit(1, 'p', 4) = 50
            limit(1, 'a', 5) = 10
            limit(1, 't', 6) = 15
            limit(0, 'p', 1) = 1
            limit(0, 'a', 1) = 2
            limit(0, 't', 1) = 3
            """);
    }

    private static void withinThePitch() {
        Script.run("promise 31, no farther from 0 than 'p'", """
            piano(39, 1, 20000) = 0
            string(0, 0, 600, 100, 3) = 607
            limit(0, 'p', 999) = 50
            isWithin(0, 0, 'p') = false
            tune(0, 0, 1) = -999
            isWithin(0, 0, 'p') = true
            limit(0, 'p', 50) = 999
            tune(0, 0, 500) = -499
            tune(0, 0, 448) = -51
            isWithin(0, 0, 'p') = false
            tune(0, 0, 1) = -50
            isWithin(0, 0, 'p') = true
            tune(0, 0, 100) = 50
            isWithin(0, 0, 'p') = true
            tune(0, 0, 1) = 51
            isWithin(0, 0, 'p') = false
            limit(0, 'p', 0) = 50
            tune(0, 0, -50) = 1
            isWithin(0, 0, 'p') = false
            tune(0, 0, -1) = 0
            isWithin(0, 0, 'p') = true
            tune(0, 0, -1) = -1
            isWithin(0, 0, 'p') = false
            """);
    }

    private static void withinTheAction() {
        Script.run("promise 31, each of the settings no farther from 0 than 'a'", """
            piano(39, 2, 20000) = 0
            isWithin(0, 0, 'a') = false
            limit(0, 'a', 19) = 10
            isWithin(0, 0, 'a') = false
            limit(0, 'a', 20) = 19
            isWithin(0, 0, 'a') = true
            adjust(0, 0, 4, 1) = 1
            isWithin(0, 0, 'a') = false
            adjust(0, 0, 4, -41) = 0
            isWithin(0, 0, 'a') = true
            adjust(0, 0, 4, -1) = 1
            isWithin(0, 0, 'a') = false
            isWithin(0, 1, 'a') = true
            adjust(0, 0, 4, 1) = 0
            adjust(0, 0, 0, 1) = 1
            isWithin(0, 0, 'a') = false
            adjust(0, 0, 0, -1) = 0
            adjust(0, 0, 1, 1) = 1
            isWithin(0, 0, 'a') = false
            adjust(0, 0, 1, -1) = 0
            adjust(0, 0, 2, 1) = 1
            isWithin(0, 0, 'a') = false
            adjust(0, 0, 2, -1) = 0
            adjust(0, 0, 3, 1) = 1
            isWithin(0, 0, 'a') = false
            """);
    }

    private static void withinTheTone() {
        Script.run("promise 31, the tone no farther from 60 than 't'", """
            piano(39, 1, 20000) = 0
            string(0, 0, 600, 100, 3) = 607
            limit(0, 't', 2) = 15
            tone(0, 0) = 62
            isWithin(0, 0, 't') = true
            limit(0, 't', 1) = 2
            isWithin(0, 0, 't') = false
            limit(0, 't', 15) = 1
            harden(0, 0, 13) = 63
            tone(0, 0) = 75
            isWithin(0, 0, 't') = true
            harden(0, 0, 1) = 64
            isWithin(0, 0, 't') = false
            needle(0, 0, 7) = 33
            tone(0, 0) = 45
            isWithin(0, 0, 't') = true
            needle(0, 0, 1) = 30
            harden(0, 0, 2) = 32
            tone(0, 0) = 44
            isWithin(0, 0, 't') = false
            harden(0, 0, 16) = 48
            limit(0, 't', 0) = 15
            isWithin(0, 0, 't') = true
            harden(0, 0, 1) = 49
            isWithin(0, 0, 't') = false
            """);
    }

    private static void withinNothing() {
        Script.run("promise 31, one that is not strung is within none of 'p' and 't'", """
            piano(39, 1, 20000) = 0
            limit(0, 'p', 999) = 50
            limit(0, 'a', 999) = 10
            limit(0, 't', 999) = 15
            isWithin(0, 0, 'p') = false
            isWithin(0, 0, 'a') = true
            isWithin(0, 0, 't') = false
            string(0, 0, 970, 100, 1) = 1587
            tune(0, 0, 500) = -500
            isWithin(0, 0, 'p') = true
            isWithin(0, 0, 't') = true
            play(0, 0, 1, 1) = 0
            isWithin(0, 0, 'p') = false
            isWithin(0, 0, 'a') = true
            isWithin(0, 0, 't') = false
            blame(0, 0, 'p') = 2
            blame(0, 0, 't') = 2
            """);
    }

    private static void withinWhatIsNotThere() {
        Script.run("promises 31 and 37, no such piano or note ahead of no such limit", """
            piano(39, 2, 20000) = 0
            isWithin(0, 2, 'x') throws IndexOutOfBounds
            isWithin(0, -1, 'p') throws IndexOutOfBounds
            isWithin(1, 0, 'x') throws IndexOutOfBounds
            isWithin(-1, 0, 'p') throws IndexOutOfBounds
            isWithin(0, 0, 'x') throws IllegalArgument
            isWithin(0, 0, 'A') throws IllegalArgument
            isWithin(0, 0, 0) throws IllegalArgument
            isWithin(0, 0, 65535) throws IllegalArgument
            blame(0, 2, 'x') throws IndexOutOfBounds
            blame(0, -1, 'p') throws IndexOutOfBounds
            blame(1, 0, 'x') throws IndexOutOfBounds
            blame(-1, 0, 'p') throws IndexOutOfBounds
            blame(0, 0, 'x') throws IllegalArgument
            blame(0, 0, 'T') throws IllegalArgument
            blame(0, 0, 0) throws IllegalArgument
            blame(0, 0, 65535) throws IllegalArgument
            """);
    }

    private static void worst() {
        Script.run("promise 32, the farthest, of several the lowest one", """
            piano(39, 2, 20000) = 0
            worst(0, 0) = 0
            adjust(0, 0, 4, 1) = 5
            worst(0, 0) = 4
            adjust(0, 0, 2, -41) = 5
            worst(0, 0) = 2
            adjust(0, 0, 4, 1) = 5
            worst(0, 0) = 4
            adjust(0, 0, 4, -43) = 5
            worst(0, 0) = 2
            adjust(0, 0, 4, -1) = 5
            worst(0, 0) = 4
            worst(0, 1) = 0
            adjust(0, 1, 0, -20)
            adjust(0, 1, 1, -30)
            adjust(0, 1, 2, -14)
            adjust(0, 1, 3, -16)
            adjust(0, 1, 2, 4)
            adjust(0, 1, 4, -27)
            setting(0, 1, 0) = 0
            setting(0, 1, 1) = 0
            setting(0, 1, 2) = 0
            setting(0, 1, 3) = 0
            setting(0, 1, 4) = 0
            worst(0, 1) = 0
            worst(0, 2) throws IndexOutOfBounds
            worst(0, -1) throws IndexOutOfBounds
            worst(1, 0) throws IndexOutOfBounds
            """);
    }

    private static void faultsOfAll() {
        Script.run("promises 33 and 34, all faults of a piano of 24 notes", """
            piano(39, 24, 20000) = 0
            faults(0) = 72
            fault(0, 0) = 0
            fault(0, 1) = 1
            fault(0, 2) = 2
            fault(0, 3) = 10
            fault(0, 71) = 232
            fault(0, 72) throws NoSuchElement
            fault(0, -1) throws NoSuchElement
            limit(0, 'a', 20) = 10
            faults(0) = 48
            fault(0, 1) = 2
            fault(0, 47) = 232
            fault(0, 48) throws NoSuchElement
            string(0, 23, 150, 100, 3)
            faults(0) = 47
            fault(0, 46) = 230
            faults(1) throws IndexOutOfBounds
            faults(-1) throws IndexOutOfBounds
            fault(1, 0) throws IndexOutOfBounds
            fault(-1, -1) throws IndexOutOfBounds
            """);
    }

    private static void faultsOfNone() {
        Script.run("promises 33 to 35, a piano without a fault", """
            piano(39, 1, 20000) = 0
            string(0, 0, 600, 100, 3) = 607
            limit(0, 'p', 999) = 50
            tune(0, 0, 1) = -999
            faults(0) = 1
            fault(0, 0) = 1
            isReady(0) = false
            limit(0, 'a', 20) = 10
            faults(0) = 0
            fault(0, 0) throws NoSuchElement
            fault(0, -1) throws NoSuchElement
            isReady(0) = true
            readyShare(0) = 1.0
            limit(0, 't', 1) = 15
            faults(0) = 1
            fault(0, 0) = 2
            isReady(0) = false
            limit(0, 'p', 998) = 999
            faults(0) = 2
            fault(0, 0) = 0
            fault(0, 1) = 2
            fault(0, 2) throws NoSuchElement
            limit(0, 'a', 19) = 20
            faults(0) = 3
            """);
    }

    private static void faultIndexes() {
        Script.run("promise 34, indexes from 0", """
            piano(39, 2, 20000) = 0
            string(0, 0, 600, 100, 3) = 607
            faults(0) = 5
            fault(0, 0) = 0
            fault(0, 1) = 1
            fault(0, 2) = 10
            fault(0, 3) = 11
            fault(0, 4) = 12
            fault(0, 5) throws NoSuchElement
            fault(0, -1) throws NoSuchElement
            fault(0, least) throws NoSuchElement
            fault(0, most) throws NoSuchElement
            """);
    }

    private static void ready() {
        Script.run("promise 35, one fault is enough", """
            isReady(0) throws IndexOutOfBounds
            piano(39, 2, 20000) = 0
            limit(0, 'p', 999) = 50
            limit(0, 'a', 20) = 10
            isReady(0) = false
            string(0, 0, 600, 100, 3) = 607
            tune(0, 0, 500) = -500
            isReady(0) = false
            string(0, 1, 600, 100, 3)
            isReady(0) = false
            tune(0, 1, 500) = -500
            isReady(0) = true
            adjust(0, 1, 2, 1) = 1
            isReady(0) = false
            isReady(1) throws IndexOutOfBounds
            isReady(-1) throws IndexOutOfBounds
            """);
    }

    private static void readiest() {
        Script.run("promise 36, none, one, and of several the lowest number", """
            readiest() throws NoSuchElement
            piano(39, 24, 20000) = 0
            readiest() = 0
            piano(39, 24, 20000) = 1
            readiest() = 0
            limit(1, 'a', 20) = 10
            readiest() = 1
            limit(0, 'a', 20) = 10
            readiest() = 0
            """);
    }

    private static void readiestOfFour() {
        Script.run("promise 36, the fewest faults, not the greatest share of notes", """
            piano(39, 3, 20000) = 0
            piano(39, 2, 20000) = 1
            piano(39, 2, 20000) = 2
            piano(39, 1, 20000) = 3
            readiest() = 3
            limit(2, 'a', 20) = 10
            readiest() = 3
            string(2, 0, 600, 100, 3) = 607
            readiest() = 2
            limit(2, 't', 1) = 15
            readiest() = 3
            limit(2, 't', 15) = 1
            limit(2, 'p', 999) = 50
            tune(2, 0, 1) = -999
            readiest() = 2
            string(3, 0, 600, 100, 3) = 607
            readiest() = 2
            limit(3, 'a', 20) = 10
            readiest() = 3
            limit(3, 'a', 19) = 20
            readiest() = 2
            """);
    }

    private static void blameOfNone() {
        Script.run("promise 37, within the limit, or no act is to blame", """
            piano(39, 2, 20000) = 0
            blame(0, 0, 'p') throws NoSuchElement
            blame(0, 0, 'a') throws NoSuchElement
            blame(0, 0, 't') throws NoSuchElement
            limit(0, 'a', 20) = 10
            blame(0, 0, 'a') throws NoSuchElement
            limit(0, 'a', 10) = 20
            blame(0, 0, 'a') throws NoSuchElement
            string(0, 0, 600, 100, 3) = 607
            blame(0, 0, 'p') throws NoSuchElement
            blame(0, 0, 't') throws NoSuchElement
            harden(0, 0, 50) = 100
            blame(0, 0, 't') = 1
            needle(0, 0, 8) = 45
            blame(0, 0, 't') throws NoSuchElement
            blame(0, 1, 't') throws NoSuchElement
            """);
    }

    private static void blameAtTheLimit() {
        Script.run("promise 37, ahead of which within, behind which not", """
            piano(39, 1, 20000) = 0
            string(0, 0, 600, 100, 3) = 607
            2 x tune(0, 0, 500)
            tune(0, 0, 50) = 50
            blame(0, 0, 'p') throws NoSuchElement
            tune(0, 0, 1) = 51
            blame(0, 0, 'p') = 4
            tune(0, 0, 1) = 52
            blame(0, 0, 'p') = 4
            tune(0, 0, -104) = -52
            blame(0, 0, 'p') = 4
            tune(0, 0, 2) = -50
            blame(0, 0, 'p') throws NoSuchElement
            tune(0, 0, -1) = -51
            blame(0, 0, 'p') = 8
            """);
    }

    private static void blameOfTheFirstAct() {
        Script.run("promise 37, act 0", """
            piano(39, 2, 20000) = 0
            limit(0, 'a', 20) = 10
            adjust(0, 1, 2, 1) = 1
            blame(0, 1, 'a') = 0
            blame(0, 0, 'a') throws NoSuchElement
            adjust(0, 1, 2, 1) = 1
            blame(0, 1, 'a') = 0
            back() = a
            blame(0, 1, 'a') = 0
            back() = a
            blame(0, 1, 'a') throws NoSuchElement
            limit(0, 'a', 0) = 20
            blame(0, 1, 'a') throws NoSuchElement
            """);
    }

    private static void blameOfTheLastAct() {
        Script.run("promise 37, by the whole of an act, on all notes that it moves", """
            piano(39, 3, 20000) = 0
            string(0, 0, 600, 100, 3) = 607
            string(0, 1, 600, 100, 1)
            string(0, 2, 600, 100, 1)
            limit(0, 'p', 999) = 50
            tune(0, 2, 1) = -999
            tune(0, 1, 30) = -970
            tune(0, 2, 2) = -998
            tune(0, 0, 20) = -981
            pitch(0, 1) = -972
            pitch(0, 2) = -999
            blame(0, 2, 'p') throws NoSuchElement
            tune(0, 0, 20) = -961
            pitch(0, 2) = -1000
            blame(0, 2, 'p') = 7
            blame(0, 1, 'p') throws NoSuchElement
            weather(0, 365, 0) = 29
            pitch(0, 1) = -1085
            blame(0, 1, 'p') = 8
            blame(0, 0, 'p') = 8
            blame(0, 2, 'p') = 7
            """);
    }

    private static void blameAgain() {
        Script.run("promise 37, an elder act may be to blame again", """
            piano(39, 1, 20000) = 0
            limit(0, 'a', 30) = 10
            adjust(0, 0, 4, 11) = 1
            blame(0, 0, 'a') = 0
            adjust(0, 0, 4, -11) = 0
            blame(0, 0, 'a') throws NoSuchElement
            limit(0, 'a', 19) = 30
            blame(0, 0, 'a') = 0
            limit(0, 'a', 20) = 19
            adjust(0, 0, 4, 1) = 1
            blame(0, 0, 'a') = 2
            back() = a
            limit(0, 'a', 0) = 20
            blame(0, 0, 'a') = 0
            """);
    }

    private static void blameByLimits() {
        Script.run("promise 37, by the limit as it was then, and a limit is no act", """
            piano(39, 1, 20000) = 0
            limit(0, 'a', 20) = 10
            adjust(0, 0, 4, 10) = 1
            limit(0, 'a', 40) = 20
            blame(0, 0, 'a') throws NoSuchElement
            adjust(0, 0, 4, 5) = 0
            limit(0, 'a', 30) = 40
            blame(0, 0, 'a') = 0
            acts() = 2
            adjust(0, 0, 4, 1) = 1
            blame(0, 0, 'a') = 0
            limit(0, 'a', 36) = 30
            adjust(0, 0, 4, 1) = 1
            blame(0, 0, 'a') = 3
            """);
    }

    private static void blameOfAct299() {
        Script.run("promise 37, the last of 300 acts", """
            piano(39, 1, 20000) = 0
            piano(39, 1, 20000) = 1
            limit(1, 'a', 20) = 10
            299 x adjust(0, 0, 4, 0)
            adjust(1, 0, 4, 1) = 1
            blame(1, 0, 'a') = 299
            blame(0, 0, 'a') throws NoSuchElement
            isSound() = true
            adjust(1, 0, 4, 1) throws IllegalState
            back() = a
            blame(1, 0, 'a') throws NoSuchElement
            harden(0, 0, 1) = 51
            isSound() = true
            """);
    }
}
