/** Promises 23 to 29, at each edge that the document names. */
public final class EdgesOfPlayingTest {
    public static void main(String[] args) {
        playingRange();
        hardnessByPlaying();
        pitchByPlaying();
        springByPlaying();
        hardnessUpToAHundred();
        breakingAboveAHundred();
        breakingOneByOne();
        playingWhatIsNotStrung();
        playingThreeHundredTimes();
        blows();
        typingRange();
        thirtyTyped();
        wipingAnEmptyPiece();
        performingRange();
        performingAnEmptyPiece();
        performingAFullPiece();
        performingWhatIsNotThere();
        performingUntilAllBreaks();
        performingInOrder();
        performingCountsAhead();
        performingThreeHundredTimes();
        weatherRange();
        moistureIsCut();
        moistureAtItsEnds();
        swellingByThirds();
        swellingIsCut();
        swellingOfAllDaysAtOnce();
        weatherThreeHundredTimes();
        moisture();
        Checks.end("EdgesOfPlayingTest");
    }

    private static void playingRange() {
        Script.run("promise 23, force 1 to 9, 1 to 9999 times", """
            piano(39, 2, 20000) = 0
            string(0, 0, 600, 100, 3) = 607
            play(0, 0, 0, 1) throws IllegalArgument
            play(0, 0, 10, 1) throws IllegalArgument
            play(0, 0, least, 1) throws IllegalArgument
            play(0, 0, most, 1) throws IllegalArgument
            play(0, 0, 1, 0) throws IllegalArgument
            play(0, 0, 1, 10000) throws IllegalArgument
            play(0, 0, 1, least) throws IllegalArgument
            play(0, 0, 1, most) throws IllegalArgument
            play(0, 2, 0, 0) throws IndexOutOfBounds
            play(0, -1, 1, 1) throws IndexOutOfBounds
            play(1, 0, 1, 1) throws IndexOutOfBounds
            acts() = 1
            play(0, 0, 1, 1) = 3
            pitch(0, 0) = -1000
            hardness(0, 0) = 50
            play(0, 0, 9, 9999) = 3
            pitch(0, 0) = -1404
            hardness(0, 0) = 100
            setting(0, 0, 3) = -69
            blows(0, 0) = 10000
            felt(0, 0) = 60
            minutes(0) = 60
            """);
    }

    private static void hardnessByPlaying() {
        Script.run("promise 23, hardness more by force times how often, by 500, cut", """
            piano(39, 2, 20000) = 0
            string(0, 0, 600, 100, 3) = 607
            play(0, 0, 1, 499) = 3
            hardness(0, 0) = 50
            play(0, 0, 1, 500) = 3
            hardness(0, 0) = 51
            play(0, 0, 9, 55) = 3
            hardness(0, 0) = 51
            play(0, 0, 9, 56) = 3
            hardness(0, 0) = 52
            hardness(0, 1) = 50
            """);
    }

    private static void pitchByPlaying() {
        Script.run("promise 23, pitch less by force times force times how often, by 2000, cut", """
            piano(39, 2, 20000) = 0
            string(0, 0, 600, 100, 3) = 607
            string(0, 1, 570, 100, 3) = 615
            play(0, 0, 1, 1999) = 3
            pitch(0, 0) = -1000
            play(0, 0, 1, 2000) = 3
            pitch(0, 0) = -1001
            play(0, 0, 9, 24) = 3
            pitch(0, 0) = -1001
            play(0, 0, 9, 25) = 3
            pitch(0, 0) = -1002
            play(0, 0, 2, 999) = 3
            pitch(0, 0) = -1003
            pitch(0, 1) = -1000
            """);
    }

    private static void springByPlaying() {
        Script.run("promise 23, the spring less by force times how often, by 1000, cut", """
            piano(39, 2, 20000) = 0
            string(0, 0, 600, 100, 3) = 607
            play(0, 0, 1, 999) = 3
            setting(0, 0, 3) = 20
            play(0, 0, 1, 1000) = 3
            setting(0, 0, 3) = 19
            play(0, 0, 9, 111) = 3
            setting(0, 0, 3) = 19
            play(0, 0, 9, 112) = 3
            setting(0, 0, 3) = 18
            play(0, 0, 9, 9999) = 3
            setting(0, 0, 3) = -71
            setting(0, 0, 0) = 20
            setting(0, 0, 1) = 20
            setting(0, 0, 2) = 20
            setting(0, 0, 4) = 20
            setting(0, 1, 3) = 20
            """);
    }

    private static void hardnessUpToAHundred() {
        Script.run("promise 23, hardness 100 at most", """
            piano(39, 1, 20000) = 0
            string(0, 0, 600, 100, 3) = 607
            harden(0, 0, 49) = 99
            play(0, 0, 1, 500) = 3
            hardness(0, 0) = 100
            play(0, 0, 1, 500) = 3
            hardness(0, 0) = 100
            needle(0, 0, 1) = 90
            play(0, 0, 9, 9999) = 3
            hardness(0, 0) = 100
            isSound() = true
            """);
    }

    private static void breakingAboveAHundred() {
        Script.run("promise 23, a string breaks above 100, not at it", """
            piano(39, 1, 20000) = 0
            string(0, 0, 829, 100, 3) = 1159
            load(0, 0) = 73
            play(0, 0, 9, 9999) = 3
            string(0, 0, 830, 100, 3) = 1162
            load(0, 0) = 74
            play(0, 0, 8, 9999) = 3
            play(0, 0, 9, 1) = 2
            string(0, 0, 954, 100, 3)
            load(0, 0) = 97
            play(0, 0, 1, 9999) = 3
            play(0, 0, 2, 1) = 2
            string(0, 0, 955, 100, 3)
            load(0, 0) = 98
            play(0, 0, 1, 1) = 2
            """);
    }

    private static void breakingOneByOne() {
        Script.run("promise 23, one of its strings for all of the blows, down to none", """
            piano(39, 1, 20000) = 0
            string(0, 0, 970, 100, 3) = 1587
            play(0, 0, 9, 9999) = 2
            tension(0, 0) = 1587
            load(0, 0) = 101
            pitch(0, 0) = -1404
            play(0, 0, 9, 9999) = 1
            play(0, 0, 9, 9999) = 0
            play(0, 0, 1, 1) throws UnsupportedOperation
            blows(0, 0) = 29997
            setting(0, 0, 3) = -247
            string(0, 0, 970, 100, 1) = 1587
            pitch(0, 0) = -1000
            play(0, 0, 1, 1) = 0
            strings(0, 0) = 0
            isSound() = true
            """);
    }

    private static void playingWhatIsNotStrung() {
        Script.run("promise 23, a note that is not strung is not played", """
            piano(39, 2, 20000) = 0
            play(0, 0, 1, 1) throws UnsupportedOperation
            play(0, 0, 10, 1) throws IllegalArgument
            play(0, 0, 1, 0) throws IllegalArgument
            string(0, 0, 600, 100, 3) = 607
            play(0, 1, 9, 9999) throws UnsupportedOperation
            hardness(0, 1) = 50
            blows(0, 1) = 0
            acts() = 1
            """);
    }

    private static void playingThreeHundredTimes() {
        Script.run("promise 23, 300 acts", """
            piano(39, 2, 20000) = 0
            string(0, 0, 600, 100, 3) = 607
            298 x play(0, 0, 9, 9999)
            play(0, 0, 9, 9999) = 3
            pitch(0, 0) = -121796
            blows(0, 0) = 2989701
            setting(0, 0, 3) = -26591
            play(0, 0, 1, 1) throws IllegalState
            play(0, 1, 1, 1) throws UnsupportedOperation
            play(0, 0, 10, 1) throws IllegalArgument
            play(0, 2, 1, 1) throws IndexOutOfBounds
            rateOf(0, 0) = -157884787
            """);
    }

    private static void blows() {
        Script.run("promise 24, blows of a note, 0 at first", """
            piano(39, 2, 20000) = 0
            blows(0, 0) = 0
            string(0, 0, 970, 100, 1) = 1587
            play(0, 0, 1, 9999) = 0
            blows(0, 0) = 9999
            string(0, 0, 600, 100, 1) = 607
            blows(0, 0) = 9999
            play(0, 0, 1, 1) = 1
            blows(0, 0) = 10000
            blows(0, 1) = 0
            back() = p
            blows(0, 0) = 9999
            blows(0, 2) throws IndexOutOfBounds
            blows(0, -1) throws IndexOutOfBounds
            blows(1, 0) throws IndexOutOfBounds
            """);
    }

    private static void typingRange() {
        Script.run("promise 25, notes 0 to 23, force 1 to 9", """
            type(-1, 1) throws IllegalArgument
            type(24, 1) throws IllegalArgument
            type(least, 1) throws IllegalArgument
            type(most, 1) throws IllegalArgument
            type(0, 0) throws IllegalArgument
            type(0, 10) throws IllegalArgument
            type(0, least) throws IllegalArgument
            type(0, most) throws IllegalArgument
            wipe() = 0
            type(0, 1) = 1
            type(23, 9) = 2
            type(0, 9) = 3
            type(23, 1) = 4
            acts() = 0
            wipe() = 4
            """);
    }

    private static void thirtyTyped() {
        Script.run("promise 25, at most 30 notes", """
            28 x type(5, 5)
            type(5, 5) = 29
            type(5, 5) = 30
            type(5, 5) throws IllegalState
            type(24, 5) throws IllegalArgument
            type(5, 10) throws IllegalArgument
            wipe() = 30
            type(5, 5) = 1
            """);
    }

    private static void wipingAnEmptyPiece() {
        Script.run("promise 26, how many it had, 0 and 30", """
            wipe() = 0
            wipe() = 0
            type(1, 1) = 1
            wipe() = 1
            wipe() = 0
            30 x type(1, 1)
            wipe() = 30
            wipe() = 0
            piano(39, 1, 1000) = 0
            perform(0, 1) throws UnsupportedOperation
            """);
    }

    private static void performingRange() {
        Script.run("promise 27, 1 to 999 times", """
            piano(39, 1, 20000) = 0
            string(0, 0, 600, 100, 3) = 607
            type(0, 9) = 1
            perform(0, 0) throws IllegalArgument
            perform(0, 1000) throws IllegalArgument
            perform(0, -1) throws IllegalArgument
            perform(0, least) throws IllegalArgument
            perform(0, most) throws IllegalArgument
            perform(1, 0) throws IndexOutOfBounds
            perform(-1, 1000) throws IndexOutOfBounds
            blows(0, 0) = 0
            perform(0, 1) = 0
            blows(0, 0) = 1
            perform(0, 999) = 0
            blows(0, 0) = 1000
            pitch(0, 0) = -1040
            minutes(0) = 60
            acts() = 3
            """);
    }

    private static void performingAnEmptyPiece() {
        Script.run("promise 27, an empty piece", """
            perform(0, 1) throws IndexOutOfBounds
            piano(39, 1, 20000) = 0
            perform(0, 1) throws UnsupportedOperation
            perform(0, 0) throws IllegalArgument
            perform(0, 1000) throws IllegalArgument
            perform(1, 1) throws IndexOutOfBounds
            type(0, 1) = 1
            wipe() = 1
            perform(0, 1) throws UnsupportedOperation
            acts() = 0
            """);
    }

    private static void performingAFullPiece() {
        Script.run("promise 27, a full piece, each typed one counted", """
            piano(39, 1, 20000) = 0
            string(0, 0, 600, 100, 3) = 607
            limit(0, 'p', 999) = 50
            limit(0, 'a', 20) = 10
            tune(0, 0, 1) = -999
            30 x type(0, 9)
            perform(0, 999) = 30
            blows(0, 0) = 29970
            pitch(0, 0) = -2199
            hardness(0, 0) = 100
            setting(0, 0, 3) = -220
            acts() = 3
            perform(0, 1) = 0
            wipe() = 30
            """);
    }

    private static void performingWhatIsNotThere() {
        Script.run("promise 27, notes that are not of the piano, or not strung", """
            piano(39, 2, 20000) = 0
            limit(0, 'p', 999) = 50
            limit(0, 'a', 999) = 10
            limit(0, 't', 999) = 15
            type(1, 9) = 1
            type(2, 9) = 2
            type(23, 9) = 3
            perform(0, 999) = 0
            acts() = 1
            actAt(0) = c
            blows(0, 1) = 0
            hardness(0, 1) = 50
            string(0, 1, 600, 100, 1)
            tune(0, 1, 1) = -999
            perform(0, 1) = 1
            blows(0, 1) = 1
            blows(0, 0) = 0
            """);
    }

    private static void performingUntilAllBreaks() {
        Script.run("promise 27, those that the piano has strung then", """
            piano(39, 2, 20000) = 0
            string(0, 0, 970, 100, 2) = 1587
            string(0, 1, 600, 100, 1)
            limit(0, 'p', 999) = 50
            limit(0, 'a', 20) = 10
            tune(0, 0, 30) = -970
            type(0, 9) = 1
            type(0, 9) = 2
            type(0, 9) = 3
            type(1, 9) = 4
            perform(0, 100) = 3
            strings(0, 0) = 0
            blows(0, 0) = 200
            blows(0, 1) = 100
            hardness(0, 0) = 52
            back() = c
            strings(0, 0) = 2
            blows(0, 0) = 0
            pitch(0, 0) = -970
            """);
    }

    private static void performingInOrder() {
        Script.run("promise 27, in order, so often at once", """
            piano(39, 1, 20000) = 0
            string(0, 0, 926, 100, 1)
            load(0, 0) = 92
            type(0, 1) = 1
            type(0, 9) = 2
            type(0, 1) = 3
            perform(0, 500) = 0
            strings(0, 0) = 0
            blows(0, 0) = 1000
            back() = c
            wipe() = 3
            type(0, 9) = 1
            type(0, 1) = 2
            perform(0, 500) = 0
            blows(0, 0) = 500
            hardness(0, 0) = 59
            setting(0, 0, 3) = 16
            """);
    }

    private static void performingCountsAhead() {
        Script.run("promise 27, within all limits ahead of it, at the limits", """
            piano(39, 1, 20000) = 0
            string(0, 0, 600, 100, 3) = 607
            tune(0, 0, 1) = -999
            limit(0, 'p', 999) = 50
            limit(0, 'a', 20) = 10
            limit(0, 't', 2) = 15
            type(0, 1) = 1
            perform(0, 1) = 1
            limit(0, 't', 1) = 2
            perform(0, 1) = 0
            limit(0, 't', 2) = 1
            limit(0, 'a', 19) = 20
            perform(0, 1) = 0
            limit(0, 'a', 20) = 19
            limit(0, 'p', 998) = 999
            perform(0, 1) = 0
            limit(0, 'p', 999) = 998
            wipe() = 1
            type(0, 9) = 1
            perform(0, 999) = 1
            isWithin(0, 0, 'p') = false
            """);
    }

    private static void performingThreeHundredTimes() {
        Script.run("promise 27, 300 acts", """
            piano(39, 1, 20000) = 0
            string(0, 0, 600, 100, 3) = 607
            30 x type(0, 9)
            299 x perform(0, 999)
            pitch(0, 0) = -359800
            blows(0, 0) = 8961030
            setting(0, 0, 3) = -71740
            perform(0, 1) throws IllegalState
            perform(0, 1000) throws IllegalArgument
            perform(1, 1) throws IndexOutOfBounds
            wipe() = 30
            perform(0, 1) throws UnsupportedOperation
            blows(0, 0) = 8961030
            """);
    }

    private static void weatherRange() {
        Script.run("promise 28, 1 to 365 days, moisture 0 to 99", """
            piano(39, 1, 20000) = 0
            weather(0, 0, 50) throws IllegalArgument
            weather(0, 366, 50) throws IllegalArgument
            weather(0, least, 50) throws IllegalArgument
            weather(0, most, 50) throws IllegalArgument
            weather(0, 1, -1) throws IllegalArgument
            weather(0, 1, 100) throws IllegalArgument
            weather(0, 1, least) throws IllegalArgument
            weather(0, 1, most) throws IllegalArgument
            weather(1, 0, 50) throws IndexOutOfBounds
            weather(-1, 1, 100) throws IndexOutOfBounds
            acts() = 0
            weather(0, 1, 0) = 4350
            back() = w
            weather(0, 1, 99) = 4680
            back() = w
            weather(0, 365, 0) = 29
            back() = w
            weather(0, 365, 99) = 9871
            minutes(0) = 0
            """);
    }

    private static void moistureIsCut() {
        Script.run("promise 28, each day by what is cut toward 0", """
            piano(39, 1, 20000) = 0
            weather(0, 1, 45) = 4500
            weather(0, 365, 45) = 4500
            weather(0, 1, 46) = 4503
            weather(0, 1, 46) = 4506
            weather(0, 1, 45) = 4506
            back() = w
            back() = w
            back() = w
            weather(0, 1, 44) = 4497
            weather(0, 1, 44) = 4494
            weather(0, 2, 44) = 4488
            weather(0, 1, 45) = 4488
            weather(0, 365, 44) = 4429
            weather(0, 365, 45) = 4471
            """);
    }

    private static void moistureAtItsEnds() {
        Script.run("promise 28, as far as air moves it", """
            piano(39, 1, 20000) = 0
            weather(0, 365, 0) = 29
            weather(0, 365, 0) = 29
            weather(0, 365, 1) = 71
            weather(0, 365, 0) = 29
            weather(0, 365, 99) = 9871
            weather(0, 365, 99) = 9871
            weather(0, 1, 98) = 9869
            """);
    }

    private static void swellingByThirds() {
        Script.run("promise 28, the third of a note, cut, in pianos of 1, 2, 3, 4, 5 and 24 notes", """
            piano(39, 1, 20000) = 0
            string(0, 0, 600, 100, 1)
            weather(0, 1, 99) = 4680
            pitch(0, 0) = -998
            piano(39, 2, 20000) = 1
            string(1, 0, 600, 100, 1)
            string(1, 1, 600, 100, 1)
            weather(1, 1, 99) = 4680
            pitch(1, 0) = -998
            pitch(1, 1) = -996
            piano(39, 5, 20000) = 2
            5 x string(2, 0, 600, 100, 1)
            string(2, 1, 600, 100, 1)
            string(2, 2, 600, 100, 1)
            string(2, 3, 500, 100, 1)
            string(2, 4, 500, 100, 1)
            weather(2, 1, 99) = 4680
            pitch(2, 0) = -998
            pitch(2, 1) = -998
            pitch(2, 2) = -996
            pitch(2, 3) = -996
            pitch(2, 4) = -997
            piano(39, 24, 250000) = 3
            string(3, 0, 300, 100, 1)
            string(3, 7, 300, 100, 1)
            string(3, 8, 300, 100, 1)
            string(3, 15, 300, 100, 1)
            string(3, 16, 300, 100, 1)
            string(3, 23, 200, 100, 1)
            weather(3, 1, 99) = 4680
            pitch(3, 0) = -998
            pitch(3, 7) = -998
            pitch(3, 8) = -996
            pitch(3, 15) = -996
            pitch(3, 16) = -997
            pitch(3, 23) = -997
            """);
    }

    private static void swellingIsCut() {
        Script.run("promise 28, pitch by what is cut toward 0", """
            piano(39, 3, 20000) = 0
            string(0, 0, 600, 100, 1)
            string(0, 1, 600, 100, 1)
            weather(0, 1, 65) = 4566
            pitch(0, 0) = -1000
            pitch(0, 1) = -999
            string(0, 2, 600, 100, 1)
            pitch(0, 2) = -1000
            back() = s
            back() = w
            weather(0, 1, 66) = 4570
            pitch(0, 0) = -999
            pitch(0, 1) = -999
            back() = w
            string(0, 2, 600, 100, 1)
            weather(0, 1, 25) = 4434
            pitch(0, 0) = -1000
            pitch(0, 1) = -1001
            pitch(0, 2) = -1001
            back() = w
            weather(0, 1, 0) = 4350
            pitch(0, 0) = -1002
            pitch(0, 1) = -1003
            pitch(0, 2) = -1003
            """);
    }

    private static void swellingOfAllDaysAtOnce() {
        Script.run("promise 28, by how much it is more as all days are over", """
            piano(39, 1, 20000) = 0
            string(0, 0, 600, 100, 1)
            weather(0, 2, 65) = 4630
            pitch(0, 0) = -999
            back() = w
            weather(0, 1, 65) = 4566
            weather(0, 1, 65) = 4630
            pitch(0, 0) = -1000
            weather(0, 365, 0) = 29
            pitch(0, 0) = -1069
            weather(0, 365, 99) = 9871
            pitch(0, 0) = -922
            """);
    }

    private static void weatherThreeHundredTimes() {
        Script.run("promise 28, 300 acts", """
            piano(39, 1, 20000) = 0
            string(0, 0, 600, 100, 1)
            299 x weather(0, 1, 45)
            weather(0, 1, 50) throws IllegalState
            weather(0, 366, 50) throws IllegalArgument
            weather(0, 1, 100) throws IllegalArgument
            weather(1, 1, 50) throws IndexOutOfBounds
            moisture(0) = 4500
            back() = w
            weather(0, 1, 75) = 4600
            pitch(0, 0) = -999
            """);
    }

    private static void moisture() {
        Script.run("promise 29, 4500 at first", """
            piano(39, 1, 20000) = 0
            piano(39, 1, 20000) = 1
            moisture(0) = 4500
            weather(0, 1, 75) = 4600
            moisture(0) = 4600
            moisture(1) = 4500
            back() = w
            moisture(0) = 4500
            moisture(2) throws IndexOutOfBounds
            moisture(-1) throws IndexOutOfBounds
            moisture(least) throws IndexOutOfBounds
            """);
    }
}
