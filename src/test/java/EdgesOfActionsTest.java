/** Promises 14 to 22, at each edge that the document names. */
public final class EdgesOfActionsTest {
    public static void main(String[] args) {
        settings();
        adjustingRange();
        capstanIsCut();
        letOffIsCut();
        springIsCut();
        dropAndCheckMoveNone();
        adjustingMovesNoneByThat();
        settingsBeyond();
        adjustingThreeHundredTimes();
        adjustingWhatIsNotThere();
        hardness();
        felt();
        needlingRange();
        needlingDownToNothing();
        needlingTakesATenth();
        hardeningRange();
        hardeningUpToAHundred();
        filingDownToNothing();
        filingUpToAHundred();
        hammersWithThreeHundredActs();
        tones();
        tonesOfWhatIsNotStrung();
        unevenWithoutTwo();
        unevenOfSeveral();
        Checks.end("EdgesOfActionsTest");
    }

    private static void settings() {
        Script.run("promise 14, settings 0 to 4, 20 at first", """
            piano(39, 2, 20000) = 0
            setting(0, 0, 0) = 20
            setting(0, 0, 1) = 20
            setting(0, 0, 2) = 20
            setting(0, 0, 3) = 20
            setting(0, 1, 4) = 20
            setting(0, 0, -1) throws IllegalArgument
            setting(0, 0, 5) throws IllegalArgument
            setting(0, 0, least) throws IllegalArgument
            setting(0, 0, most) throws IllegalArgument
            setting(0, 2, 5) throws IndexOutOfBounds
            setting(0, -1, 0) throws IndexOutOfBounds
            setting(1, 0, -1) throws IndexOutOfBounds
            """);
    }

    private static void adjustingRange() {
        Script.run("promise 15, settings 0 to 4, by -50 to 50", """
            piano(39, 1, 20000) = 0
            adjust(0, 0, 0, 51) throws IllegalArgument
            adjust(0, 0, 0, -51) throws IllegalArgument
            adjust(0, 0, 0, least) throws IllegalArgument
            adjust(0, 0, 0, most) throws IllegalArgument
            adjust(0, 0, -1, 1) throws IllegalArgument
            adjust(0, 0, 5, 1) throws IllegalArgument
            adjust(0, 0, least, 0) throws IllegalArgument
            adjust(0, 0, 5, 51) throws IllegalArgument
            acts() = 0
            adjust(0, 0, 4, 50) = 5
            setting(0, 0, 4) = 70
            adjust(0, 0, 4, -50) = 5
            setting(0, 0, 4) = 20
            adjust(0, 0, 0, 50) = 2
            setting(0, 0, 0) = 70
            setting(0, 0, 1) = -5
            setting(0, 0, 2) = 5
            setting(0, 0, 3) = 30
            setting(0, 0, 4) = 0
            adjust(0, 0, 0, -50) = 5
            setting(0, 0, 4) = 20
            adjust(0, 0, 0, 0) = 5
            minutes(0) = 10
            """);
    }

    private static void capstanIsCut() {
        Script.run("promise 15, what the capstan moves is cut toward 0", """
            piano(39, 4, 20000) = 0
            adjust(0, 0, 0, 1)
            setting(0, 0, 1) = 20
            adjust(0, 0, 0, 2)
            setting(0, 0, 1) = 19
            setting(0, 0, 4) = 20
            adjust(0, 0, 0, 3)
            setting(0, 0, 0) = 26
            setting(0, 0, 1) = 18
            setting(0, 0, 2) = 20
            setting(0, 0, 3) = 20
            setting(0, 0, 4) = 19
            adjust(0, 1, 0, 4)
            setting(0, 1, 2) = 19
            setting(0, 1, 3) = 20
            adjust(0, 1, 0, 5)
            setting(0, 1, 3) = 21
            adjust(0, 2, 0, -3)
            setting(0, 2, 0) = 17
            setting(0, 2, 1) = 21
            setting(0, 2, 2) = 20
            setting(0, 2, 3) = 20
            setting(0, 2, 4) = 21
            adjust(0, 3, 0, -9)
            setting(0, 3, 0) = 11
            setting(0, 3, 1) = 24
            setting(0, 3, 2) = 22
            setting(0, 3, 3) = 19
            setting(0, 3, 4) = 23
            """);
    }

    private static void letOffIsCut() {
        Script.run("promise 15, what let-off moves is cut toward 0", """
            piano(39, 2, 20000) = 0
            adjust(0, 0, 1, 2)
            setting(0, 0, 2) = 20
            adjust(0, 0, 1, 3)
            setting(0, 0, 2) = 21
            adjust(0, 1, 1, -2)
            setting(0, 1, 2) = 20
            adjust(0, 1, 1, -3)
            setting(0, 1, 2) = 19
            setting(0, 1, 0) = 20
            setting(0, 1, 1) = 15
            setting(0, 1, 3) = 20
            setting(0, 1, 4) = 20
            """);
    }

    private static void springIsCut() {
        Script.run("promise 15, what the spring moves is cut toward 0", """
            piano(39, 2, 20000) = 0
            adjust(0, 0, 3, 3)
            setting(0, 0, 2) = 20
            adjust(0, 0, 3, 4)
            setting(0, 0, 2) = 21
            setting(0, 0, 4) = 20
            adjust(0, 0, 3, 9)
            setting(0, 0, 2) = 23
            setting(0, 0, 4) = 20
            adjust(0, 0, 3, 10)
            setting(0, 0, 2) = 26
            setting(0, 0, 4) = 21
            adjust(0, 1, 3, -9)
            setting(0, 1, 2) = 18
            setting(0, 1, 4) = 20
            adjust(0, 1, 3, -10)
            setting(0, 1, 2) = 15
            setting(0, 1, 4) = 19
            setting(0, 1, 0) = 20
            setting(0, 1, 1) = 20
            setting(0, 1, 3) = 1
            """);
    }

    private static void dropAndCheckMoveNone() {
        Script.run("promise 15, of drop and the check none", """
            piano(39, 2, 20000) = 0
            adjust(0, 0, 2, 50)
            setting(0, 0, 0) = 20
            setting(0, 0, 1) = 20
            setting(0, 0, 2) = 70
            setting(0, 0, 3) = 20
            setting(0, 0, 4) = 20
            adjust(0, 1, 4, -50)
            setting(0, 1, 0) = 20
            setting(0, 1, 1) = 20
            setting(0, 1, 2) = 20
            setting(0, 1, 3) = 20
            setting(0, 1, 4) = -30
            """);
    }

    private static void adjustingMovesNoneByThat() {
        Script.run("promise 15, others, which change none by that", """
            piano(39, 2, 20000) = 0
            adjust(0, 0, 0, -50)
            setting(0, 0, 1) = 45
            setting(0, 0, 2) = 35
            setting(0, 0, 3) = 10
            setting(0, 0, 4) = 40
            setting(0, 1, 0) = 20
            setting(0, 1, 1) = 20
            """);
    }

    private static void settingsBeyond() {
        Script.run("promise 15, how many are beyond the limit then, 0 to 5", """
            piano(39, 1, 20000) = 0
            adjust(0, 0, 4, -9) = 5
            adjust(0, 0, 4, -1) = 4
            adjust(0, 0, 4, -20) = 4
            adjust(0, 0, 4, -1) = 5
            limit(0, 'a', 11) = 10
            adjust(0, 0, 4, 0) = 4
            limit(0, 'a', 20) = 11
            adjust(0, 0, 4, 0) = 0
            limit(0, 'a', 19) = 20
            adjust(0, 0, 4, 0) = 4
            limit(0, 'a', 0) = 19
            adjust(0, 0, 4, 11) = 4
            adjust(0, 0, 4, 1) = 5
            limit(0, 'a', 999) = 0
            19 x adjust(0, 0, 4, 50)
            adjust(0, 0, 4, 48) = 0
            setting(0, 0, 4) = 999
            adjust(0, 0, 4, 1) = 1
            """);
    }

    private static void adjustingThreeHundredTimes() {
        Script.run("promise 15, 300 acts", """
            piano(39, 1, 20000) = 0
            299 x adjust(0, 0, 0, 50)
            adjust(0, 0, 0, 50) = 5
            setting(0, 0, 0) = 15020
            setting(0, 0, 1) = -7480
            adjust(0, 0, 0, 1) throws IllegalState
            adjust(0, 0, 5, 1) throws IllegalArgument
            adjust(0, 0, 0, 51) throws IllegalArgument
            adjust(0, 1, 0, 1) throws IndexOutOfBounds
            setting(0, 0, 0) = 15020
            """);
    }

    private static void adjustingWhatIsNotThere() {
        Script.run("promise 15, no such piano or note ahead of the rest", """
            piano(39, 2, 20000) = 0
            adjust(0, 2, 5, 51) throws IndexOutOfBounds
            adjust(0, -1, 0, 51) throws IndexOutOfBounds
            adjust(1, 0, 5, 0) throws IndexOutOfBounds
            adjust(-1, 0, 0, 0) throws IndexOutOfBounds
            adjust(0, 1, 0, 1) = 5
            """);
    }

    private static void hardness() {
        Script.run("promise 16, 50 at first, 0 to 100", """
            piano(39, 2, 20000) = 0
            hardness(0, 0) = 50
            hardness(0, 1) = 50
            harden(0, 0, 50) = 100
            hardness(0, 0) = 100
            2 x needle(0, 1, 20)
            hardness(0, 1) = 0
            hardness(0, 2) throws IndexOutOfBounds
            hardness(0, -1) throws IndexOutOfBounds
            hardness(1, 0) throws IndexOutOfBounds
            hardness(-1, 0) throws IndexOutOfBounds
            isSound() = true
            """);
    }

    private static void felt() {
        Script.run("promise 17, 60 at first, down to 0", """
            piano(39, 2, 20000) = 0
            felt(0, 0) = 60
            12 x file(0, 0)
            felt(0, 0) = 0
            felt(0, 1) = 60
            felt(0, 2) throws IndexOutOfBounds
            felt(0, -1) throws IndexOutOfBounds
            felt(1, 0) throws IndexOutOfBounds
            felt(-1, 0) throws IndexOutOfBounds
            isSound() = true
            """);
    }

    private static void needlingRange() {
        Script.run("promise 18, 1 to 20 times", """
            piano(39, 2, 20000) = 0
            needle(0, 0, 0) throws IllegalArgument
            needle(0, 0, 21) throws IllegalArgument
            needle(0, 0, -1) throws IllegalArgument
            needle(0, 0, least) throws IllegalArgument
            needle(0, 0, most) throws IllegalArgument
            needle(0, 2, 0) throws IndexOutOfBounds
            needle(1, 0, 21) throws IndexOutOfBounds
            hardness(0, 0) = 50
            needle(0, 0, 1) = 45
            minutes(0) = 1
            needle(0, 1, 20) = 9
            minutes(0) = 21
            felt(0, 1) = 60
            """);
    }

    private static void needlingDownToNothing() {
        Script.run("promise 18, as long as it is above 0", """
            piano(39, 1, 20000) = 0
            needle(0, 0, 20) = 9
            needle(0, 0, 8) = 1
            needle(0, 0, 1) = 0
            needle(0, 0, 1) = 0
            needle(0, 0, 20) = 0
            minutes(0) = 50
            harden(0, 0, 1) = 1
            needle(0, 0, 20) = 0
            harden(0, 0, 2) = 2
            needle(0, 0, 1) = 1
            isSound() = true
            acts() = 9
            """);
    }

    private static void needlingTakesATenth() {
        Script.run("promise 18, a tenth, cut, but 1 at least", """
            piano(39, 1, 20000) = 0
            harden(0, 0, 50) = 100
            needle(0, 0, 1) = 90
            needle(0, 0, 1) = 81
            needle(0, 0, 1) = 73
            needle(0, 0, 12) = 24
            needle(0, 0, 1) = 22
            needle(0, 0, 1) = 20
            needle(0, 0, 1) = 18
            needle(0, 0, 1) = 17
            harden(0, 0, 2) = 19
            needle(0, 0, 1) = 18
            needle(0, 0, 8) = 10
            needle(0, 0, 1) = 9
            needle(0, 0, 1) = 8
            """);
    }

    private static void hardeningRange() {
        Script.run("promise 19, by 1 to 50", """
            piano(39, 2, 20000) = 0
            harden(0, 0, 0) throws IllegalArgument
            harden(0, 0, 51) throws IllegalArgument
            harden(0, 0, -1) throws IllegalArgument
            harden(0, 0, least) throws IllegalArgument
            harden(0, 0, most) throws IllegalArgument
            harden(0, 2, 0) throws IndexOutOfBounds
            harden(1, 0, 51) throws IndexOutOfBounds
            minutes(0) = 0
            harden(0, 0, 1) = 51
            harden(0, 1, 50) = 100
            minutes(0) = 8
            """);
    }

    private static void hardeningUpToAHundred() {
        Script.run("promise 19, 100 at most", """
            piano(39, 1, 20000) = 0
            harden(0, 0, 49) = 99
            harden(0, 0, 1) = 100
            harden(0, 0, 1) = 100
            harden(0, 0, 50) = 100
            needle(0, 0, 1) = 90
            harden(0, 0, 9) = 99
            harden(0, 0, 2) = 100
            isSound() = true
            acts() = 7
            """);
    }

    private static void filingDownToNothing() {
        Script.run("promise 20, 5 of the felt, which must be there", """
            piano(39, 2, 20000) = 0
            file(0, 2) throws IndexOutOfBounds
            file(0, -1) throws IndexOutOfBounds
            file(1, 0) throws IndexOutOfBounds
            file(0, 0) = 55
            hardness(0, 0) = 52
            10 x file(0, 0)
            felt(0, 0) = 5
            file(0, 0) = 0
            hardness(0, 0) = 74
            file(0, 0) throws UnsupportedOperation
            hardness(0, 0) = 74
            felt(0, 0) = 0
            minutes(0) = 72
            file(0, 1) = 55
            back() = f
            back() = f
            felt(0, 0) = 5
            file(0, 0) = 0
            """);
    }

    private static void filingUpToAHundred() {
        Script.run("promise 20, 2 more hardness, 100 at most", """
            piano(39, 1, 20000) = 0
            harden(0, 0, 48) = 98
            file(0, 0) = 55
            hardness(0, 0) = 100
            file(0, 0) = 50
            hardness(0, 0) = 100
            needle(0, 0, 1) = 90
            harden(0, 0, 9) = 99
            file(0, 0) = 45
            hardness(0, 0) = 100
            """);
    }

    private static void hammersWithThreeHundredActs() {
        Script.run("promises 18 to 20, 300 acts", """
            piano(39, 2, 20000) = 0
            12 x file(0, 1)
            288 x harden(0, 1, 1)
            acts() = 300
            needle(0, 0, 1) throws IllegalState
            needle(0, 0, 21) throws IllegalArgument
            needle(0, 2, 1) throws IndexOutOfBounds
            harden(0, 0, 1) throws IllegalState
            harden(0, 0, 51) throws IllegalArgument
            harden(0, 2, 1) throws IndexOutOfBounds
            file(0, 0) throws IllegalState
            file(0, 1) throws UnsupportedOperation
            file(0, 2) throws IndexOutOfBounds
            hardness(0, 0) = 50
            felt(0, 0) = 60
            """);
    }

    private static void tones() {
        Script.run("promise 21, hardness, 4 for each string, less a fifth of the felt that is missing", """
            piano(39, 2, 20000) = 0
            string(0, 0, 970, 100, 3) = 1587
            tone(0, 0) = 62
            harden(0, 0, 50) = 100
            tone(0, 0) = 112
            file(0, 0) = 55
            tone(0, 0) = 111
            11 x file(0, 0)
            tone(0, 0) = 100
            play(0, 0, 1, 1) = 2
            tone(0, 0) = 96
            play(0, 0, 1, 1) = 1
            tone(0, 0) = 92
            3 x needle(0, 0, 20)
            hardness(0, 0) = 0
            tone(0, 0) = -8
            """);
    }

    private static void tonesOfWhatIsNotStrung() {
        Script.run("promise 21, a note that is not strung, or not any more", """
            piano(39, 2, 20000) = 0
            tone(0, 0) throws NoSuchElement
            string(0, 0, 970, 100, 1) = 1587
            tone(0, 0) = 54
            tone(0, 1) throws NoSuchElement
            play(0, 0, 1, 1) = 0
            tone(0, 0) throws NoSuchElement
            tone(0, 2) throws IndexOutOfBounds
            tone(0, -1) throws IndexOutOfBounds
            tone(1, 0) throws IndexOutOfBounds
            """);
    }

    private static void unevenWithoutTwo() {
        Script.run("promise 22, 0 without two", """
            piano(39, 1, 20000) = 0
            uneven(0) = 0
            string(0, 0, 970, 100, 3) = 1587
            uneven(0) = 0
            piano(39, 3, 20000) = 1
            uneven(1) = 0
            string(1, 2, 600, 100, 3)
            uneven(1) = 0
            harden(1, 0, 50) = 100
            uneven(1) = 0
            string(1, 0, 970, 100, 1) = 1587
            uneven(1) = 42
            play(1, 0, 1, 1) = 0
            uneven(1) = 0
            uneven(2) throws IndexOutOfBounds
            uneven(-1) throws IndexOutOfBounds
            """);
    }

    private static void unevenOfSeveral() {
        Script.run("promise 22, none between them being strung", """
            piano(39, 24, 250000) = 0
            string(0, 0, 600, 100, 3) = 607
            string(0, 23, 100, 100, 3)
            uneven(0) = 0
            harden(0, 0, 10) = 60
            uneven(0) = 10
            needle(0, 23, 1) = 45
            uneven(0) = 15
            string(0, 12, 300, 100, 3)
            uneven(0) = 10
            needle(0, 12, 20) = 9
            uneven(0) = 51
            back() = n
            harden(0, 12, 30) = 80
            uneven(0) = 35
            """);
    }
}
