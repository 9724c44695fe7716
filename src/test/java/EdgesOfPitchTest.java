/** Promises 9 to 13, at each edge that the document names. */
public final class EdgesOfPitchTest {
    public static void main(String[] args) {
        pitchAsItIsStrung();
        tuningRange();
        tuningMovesAllOthers();
        tuningIsCutDown();
        tuningIsCutUp();
        tuningWithFewerStrings();
        tuningWhatIsNotStrung();
        tuningThreeHundredTimes();
        rates();
        ratesBelowNothing();
        partials();
        beatsAreCut();
        beatsAreAnAmount();
        beatsBeyondInt();
        beatsOfWhatIsNotThere();
        quietestFarAway();
        quietestOfSeveral();
        quietestOfTheSame();
        quietestOfWhatIsNotThere();
        Checks.end("EdgesOfPitchTest");
    }

    private static void pitchAsItIsStrung() {
        Script.run("promise 9, -1000 as it is strung, none as it is not", """
            piano(39, 2, 20000) = 0
            pitch(0, 0) throws NoSuchElement
            pitch(0, 2) throws IndexOutOfBounds
            pitch(0, -1) throws IndexOutOfBounds
            pitch(1, 0) throws IndexOutOfBounds
            string(0, 0, 970, 100, 1) = 1587
            pitch(0, 0) = -1000
            tune(0, 0, 3) = -997
            string(0, 0, 970, 100, 1) = 1587
            pitch(0, 0) = -1000
            tune(0, 0, 3) = -997
            play(0, 0, 1, 1) = 0
            pitch(0, 0) throws NoSuchElement
            string(0, 0, 970, 100, 1) = 1587
            pitch(0, 0) = -1000
            pitch(0, 1) throws NoSuchElement
            """);
    }

    private static void tuningRange() {
        Script.run("promise 10, by -500 to 500", """
            piano(39, 1, 20000) = 0
            string(0, 0, 600, 100, 3) = 607
            tune(0, 0, 501) throws IllegalArgument
            tune(0, 0, -501) throws IllegalArgument
            tune(0, 0, least) throws IllegalArgument
            tune(0, 0, most) throws IllegalArgument
            pitch(0, 0) = -1000
            acts() = 1
            tune(0, 0, 500) = -500
            tune(0, 0, 500) = 0
            tune(0, 0, 500) = 500
            tune(0, 0, -500) = 0
            tune(0, 0, -500) = -500
            tune(0, 0, 0) = -500
            tune(0, 0, 1) = -499
            tune(0, 0, -1) = -500
            acts() = 9
            minutes(0) = 84
            """);
    }

    private static void tuningMovesAllOthers() {
        Script.run("promise 10, each other note that is strung, by how far both are", """
            piano(39, 24, 250000) = 0
            string(0, 0, 600, 100, 3) = 607
            string(0, 1, 600, 100, 1)
            string(0, 2, 600, 100, 1)
            string(0, 10, 300, 100, 1)
            string(0, 23, 150, 100, 1)
            tune(0, 0, 500) = -500
            pitch(0, 1) = -1050
            pitch(0, 2) = -1025
            pitch(0, 10) = -1005
            pitch(0, 23) = -1002
            string(0, 22, 150, 100, 1)
            pitch(0, 22) = -1000
            tune(0, 0, -500) = -1000
            pitch(0, 1) = -1000
            pitch(0, 2) = -1000
            pitch(0, 10) = -1000
            pitch(0, 22) = -998
            pitch(0, 23) = -1000
            tune(0, 10, 480) = -520
            pitch(0, 0) = -1001
            pitch(0, 1) = -1001
            pitch(0, 2) = -1002
            pitch(0, 22) = -999
            pitch(0, 23) = -1001
            pitch(0, 11) throws NoSuchElement
            """);
    }

    private static void tuningIsCutDown() {
        Script.run("promise 10, others fall by what is cut toward 0", """
            piano(39, 3, 20000) = 0
            string(0, 0, 600, 100, 3) = 607
            string(0, 1, 570, 100, 3) = 615
            string(0, 2, 540, 100, 3)
            tune(0, 0, 9) = -991
            pitch(0, 1) = -1000
            tune(0, 0, 10) = -981
            pitch(0, 1) = -1001
            pitch(0, 2) = -1000
            tune(0, 0, 19) = -962
            pitch(0, 1) = -1002
            pitch(0, 2) = -1000
            tune(0, 0, 20) = -942
            pitch(0, 1) = -1004
            pitch(0, 2) = -1001
            """);
    }

    private static void tuningIsCutUp() {
        Script.run("promise 10, others rise by what is cut toward 0", """
            piano(39, 3, 20000) = 0
            string(0, 0, 600, 100, 3) = 607
            string(0, 1, 570, 100, 3) = 615
            string(0, 2, 540, 100, 3)
            tune(0, 0, -9) = -1009
            pitch(0, 1) = -1000
            tune(0, 0, -10) = -1019
            pitch(0, 1) = -999
            pitch(0, 2) = -1000
            tune(0, 0, -19) = -1038
            pitch(0, 1) = -998
            pitch(0, 2) = -1000
            tune(0, 0, -20) = -1058
            pitch(0, 1) = -996
            pitch(0, 2) = -999
            """);
    }

    private static void tuningWithFewerStrings() {
        Script.run("promise 10, by the strings of the note that is tuned", """
            piano(39, 2, 20000) = 0
            string(0, 0, 600, 100, 1) = 607
            string(0, 1, 570, 100, 3) = 615
            tune(0, 0, 29)
            pitch(0, 1) = -1000
            tune(0, 0, 30)
            pitch(0, 1) = -1001
            string(0, 0, 600, 100, 2) = 607
            tune(0, 0, 14)
            pitch(0, 1) = -1001
            tune(0, 0, 15)
            pitch(0, 1) = -1002
            string(0, 0, 970, 100, 3) = 1587
            play(0, 0, 1, 1) = 2
            tune(0, 0, 29)
            pitch(0, 1) = -1003
            """);
    }

    private static void tuningWhatIsNotStrung() {
        Script.run("promise 10, a note that is not strung, or not any more", """
            piano(39, 2, 20000) = 0
            tune(0, 0, 0) throws UnsupportedOperation
            tune(0, 0, 501) throws IllegalArgument
            tune(0, 2, 501) throws IndexOutOfBounds
            tune(1, 0, 501) throws IndexOutOfBounds
            string(0, 0, 970, 100, 1) = 1587
            tune(0, 1, 1) throws UnsupportedOperation
            play(0, 0, 1, 1) = 0
            tune(0, 0, 1) throws UnsupportedOperation
            acts() = 2
            """);
    }

    private static void tuningThreeHundredTimes() {
        Script.run("promise 10, 300 acts", """
            piano(39, 2, 20000) = 0
            string(0, 0, 600, 100, 3) = 607
            298 x tune(0, 0, 0)
            tune(0, 0, 1) = -999
            acts() = 300
            tune(0, 0, 1) throws IllegalState
            tune(0, 1, 1) throws UnsupportedOperation
            tune(0, 0, 501) throws IllegalArgument
            tune(0, 2, 1) throws IndexOutOfBounds
            pitch(0, 0) = -999
            back() = t
            tune(0, 0, 2) = -998
            """);
    }

    private static void rates() {
        Script.run("promise 11, cut toward 0", """
            piano(39, 2, 20000) = 0
            rateOf(0, 0) throws NoSuchElement
            rateOf(0, 2) throws IndexOutOfBounds
            rateOf(1, 0) throws IndexOutOfBounds
            string(0, 0, 600, 100, 3) = 607
            rateOf(0, 0) = 24648909
            2 x tune(0, 0, 500)
            rateOf(0, 0) = 26160000
            tune(0, 0, 1) = 1
            rateOf(0, 0) = 26161511
            tune(0, 0, -2) = -1
            rateOf(0, 0) = 26158488
            """);
    }

    private static void ratesBelowNothing() {
        Script.run("promise 11, a rate of 0 and below, cut toward 0", """
            piano(39, 2, 20000) = 0
            string(0, 0, 600, 100, 3) = 607
            40 x play(0, 0, 9, 9999)
            pitch(0, 0) = -17160
            tune(0, 0, -151) = -17311
            rateOf(0, 0) = 1511
            tune(0, 0, -1) = -17312
            rateOf(0, 0) = 0
            beats(0, 0, 1, 0, 8) = 0
            tune(0, 0, -1) = -17313
            rateOf(0, 0) = -1511
            beats(0, 0, 1, 0, 2) = 1
            """);
    }

    private static void partials() {
        Script.run("promise 12, partials 1 to 8", """
            piano(39, 2, 20000) = 0
            string(0, 0, 600, 100, 3) = 607
            string(0, 1, 570, 100, 3) = 615
            beats(0, 0, 0, 1, 1) throws IllegalArgument
            beats(0, 0, 9, 1, 1) throws IllegalArgument
            beats(0, 0, 1, 1, 0) throws IllegalArgument
            beats(0, 0, 1, 1, 9) throws IllegalArgument
            beats(0, 0, least, 1, 1) throws IllegalArgument
            beats(0, 0, 1, 1, most) throws IllegalArgument
            beats(0, 0, 0, 2, 1) throws IndexOutOfBounds
            beats(0, 0, 1, 1, 1) = 1469
            beats(0, 0, 8, 1, 1) = 171072
            beats(0, 0, 1, 1, 8) = 184301
            beats(0, 0, 8, 1, 8) = 11759
            quietest(0, 0, 0, 1, 1) throws IllegalArgument
            quietest(0, 0, 9, 1, 1) throws IllegalArgument
            quietest(0, 0, 1, 1, 0) throws IllegalArgument
            quietest(0, 0, 1, 1, 9) throws IllegalArgument
            quietest(0, 0, 1, 1, least) throws IllegalArgument
            quietest(0, 0, most, 1, 1) throws IllegalArgument
            quietest(0, 0, 0, 2, 1) throws IndexOutOfBounds
            quietest(0, 0, 8, 1, 1) = -500
            quietest(0, 0, 1, 1, 8) = 500
            acts() = 2
            """);
    }

    private static void beatsAreCut() {
        Script.run("promise 12, beats are cut", """
            piano(0, 13, 20000) = 0
            string(0, 0, 600, 100, 1)
            string(0, 12, 600, 100, 1)
            beats(0, 0, 2, 12, 1) = 0
            tune(0, 12, 3) = -997
            beats(0, 0, 2, 12, 1) = 0
            tune(0, 12, 1) = -996
            beats(0, 0, 2, 12, 1) = 1
            beats(0, 12, 1, 0, 2) = 1
            tune(0, 12, -7) = -1003
            beats(0, 0, 2, 12, 1) = 0
            tune(0, 12, -1) = -1004
            beats(0, 0, 2, 12, 1) = 1
            """);
    }

    private static void beatsAreAnAmount() {
        Script.run("promise 12, an amount, of a note with itself too", """
            piano(39, 2, 20000) = 0
            string(0, 0, 600, 100, 3) = 607
            string(0, 1, 570, 100, 3) = 615
            beats(0, 0, 3, 1, 2) = 21709
            beats(0, 1, 2, 0, 3) = 21709
            beats(0, 0, 1, 0, 8) = 172542
            beats(0, 0, 8, 0, 1) = 172542
            beats(0, 0, 1, 0, 1) = 0
            beats(0, 1, 8, 1, 8) = 0
            """);
    }

    private static void beatsBeyondInt() {
        Script.run("promise 12, partials of rates beyond int", """
            piano(63, 24, 250000) = 0
            string(0, 22, 50, 90, 1)
            string(0, 23, 50, 90, 1) = 779
            rateOf(0, 23) = 372311600
            beats(0, 23, 8, 23, 1) = 2606181
            beats(0, 23, 1, 23, 8) = 2606181
            quietest(0, 23, 8, 22, 8) = -500
            """);
    }

    private static void beatsOfWhatIsNotThere() {
        Script.run("promise 12, either note that there is not, or that is not strung", """
            piano(39, 3, 20000) = 0
            beats(0, 0, 1, 0, 1) throws NoSuchElement
            string(0, 0, 600, 100, 3) = 607
            beats(0, 0, 1, 1, 1) throws NoSuchElement
            beats(0, 1, 1, 0, 1) throws NoSuchElement
            beats(0, 1, 9, 0, 1) throws IllegalArgument
            beats(0, 1, 1, 2, 0) throws IllegalArgument
            beats(0, 3, 1, 0, 1) throws IndexOutOfBounds
            beats(0, 0, 1, 3, 1) throws IndexOutOfBounds
            beats(0, 0, 1, -1, 1) throws IndexOutOfBounds
            beats(0, -1, 9, 0, 9) throws IndexOutOfBounds
            beats(1, 0, 9, 0, 9) throws IndexOutOfBounds
            beats(0, 0, 9, most, 9) throws IndexOutOfBounds
            """);
    }

    private static void quietestFarAway() {
        Script.run("promise 13, -500 to 500", """
            piano(0, 13, 20000) = 0
            string(0, 0, 600, 100, 1)
            string(0, 12, 600, 100, 1)
            quietest(0, 0, 8, 12, 1) = -500
            quietest(0, 0, 1, 12, 8) = 499
            tune(0, 12, 495) = -505
            quietest(0, 0, 2, 12, 1) = 493
            tune(0, 12, 5) = -500
            quietest(0, 0, 2, 12, 1) = 498
            tune(0, 12, 20) = -480
            quietest(0, 0, 2, 12, 1) = 499
            tune(0, 0, -20)
            tune(0, 0, 500)
            tune(0, 0, 500)
            quietest(0, 0, 2, 12, 1) = -458
            """);
    }

    private static void quietestOfSeveral() {
        Script.run("promise 13, of several the least amount, and nothing is tuned", """
            piano(0, 13, 20000) = 0
            string(0, 0, 600, 100, 1)
            string(0, 12, 600, 100, 1)
            quietest(0, 0, 2, 12, 1) = 0
            quietest(0, 0, 1, 12, 1) = 499
            quietest(0, 12, 1, 0, 1) = -498
            tune(0, 12, 3) = -997
            quietest(0, 0, 2, 12, 1) = 0
            tune(0, 12, 1) = -996
            quietest(0, 0, 2, 12, 1) = 1
            quietest(0, 12, 1, 0, 2) = -1
            tune(0, 12, -7) = -1003
            quietest(0, 12, 1, 0, 2) = 0
            tune(0, 12, -1) = -1004
            quietest(0, 12, 1, 0, 2) = 1
            quietest(0, 0, 2, 12, 1) = -1
            pitch(0, 12) = -1004
            pitch(0, 0) = -1000
            acts() = 6
            """);
    }

    private static void quietestOfTheSame() {
        Script.run("promise 13, both notes are not the same", """
            piano(39, 2, 20000) = 0
            quietest(0, 0, 1, 0, 1) throws IllegalArgument
            string(0, 0, 600, 100, 3) = 607
            quietest(0, 0, 1, 0, 1) throws IllegalArgument
            quietest(0, 0, 1, 0, 8) throws IllegalArgument
            quietest(0, 1, 1, 1, 1) throws IllegalArgument
            quietest(0, 2, 1, 2, 1) throws IndexOutOfBounds
            """);
    }

    private static void quietestOfWhatIsNotThere() {
        Script.run("promise 13, either note that there is not, or that is not strung", """
            piano(39, 3, 20000) = 0
            quietest(0, 0, 1, 1, 1) throws NoSuchElement
            string(0, 0, 600, 100, 3) = 607
            quietest(0, 0, 1, 1, 1) throws NoSuchElement
            quietest(0, 1, 1, 0, 1) throws NoSuchElement
            quietest(0, 1, 9, 0, 1) throws IllegalArgument
            quietest(0, 1, 1, 2, 0) throws IllegalArgument
            quietest(0, 3, 1, 0, 1) throws IndexOutOfBounds
            quietest(0, 0, 1, 3, 1) throws IndexOutOfBounds
            quietest(0, -1, 9, 0, 9) throws IndexOutOfBounds
            quietest(0, 0, 9, -1, 9) throws IndexOutOfBounds
            quietest(1, 0, 9, 0, 9) throws IndexOutOfBounds
            """);
    }
}
