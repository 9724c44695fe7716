/** Promises 38 to 46, at each edge that the document names. */
public final class EdgesOfActsTest {
    public static void main(String[] args) {
        noActs();
        whatIsNoAct();
        threeHundredActs();
        lastActOfEachKind();
        actNumbers();
        lettersOfActs();
        backToNothing();
        backLeavesLimits();
        backOfMinutesAndBlame();
        backAcrossPianos();
        backAndAnew();
        minutes();
        checksumOfOneNote();
        checksumAroundTheLong();
        readyShares();
        meanTones();
        sound();
        Checks.end("EdgesOfActsTest");
    }

    private static void noActs() {
        Script.run("promises 38 to 41, no acts", """
            acts() = 0
            actAt(0) throws IndexOutOfBounds
            pianoOf(0) throws IndexOutOfBounds
            back() throws NoSuchElement
            piano(39, 1, 20000) = 0
            acts() = 0
            actAt(0) throws IndexOutOfBounds
            pianoOf(0) throws IndexOutOfBounds
            back() throws NoSuchElement
            harden(0, 0, 1) = 51
            back() = h
            back() throws NoSuchElement
            actAt(0) throws IndexOutOfBounds
            pianoOf(0) throws IndexOutOfBounds
            """);
    }

    private static void whatIsNoAct() {
        Script.run("promise 38, what is refused, asked or told is no act", """
            piano(39, 2, 20000) = 0
            limit(0, 'p', 1) = 50
            type(0, 1) = 1
            wipe() = 1
            perform(0, 1) throws UnsupportedOperation
            tune(0, 0, 1) throws UnsupportedOperation
            string(0, 0, 49, 100, 1) throws IllegalArgument
            file(0, 2) throws IndexOutOfBounds
            worst(0, 0) = 0
            acts() = 0
            weather(0, 1, 45) = 4500
            acts() = 1
            needle(0, 0, 1) = 45
            acts() = 2
            back() = n
            acts() = 1
            """);
    }

    private static void threeHundredActs() {
        Script.run("promise 38, at most 300", """
            piano(39, 1, 20000) = 0
            string(0, 0, 600, 100, 1) = 607
            type(0, 1) = 1
            298 x harden(0, 0, 1)
            acts() = 299
            harden(0, 0, 1) = 100
            acts() = 300
            string(0, 0, 600, 100, 1) throws IllegalState
            tune(0, 0, 1) throws IllegalState
            adjust(0, 0, 0, 1) throws IllegalState
            needle(0, 0, 1) throws IllegalState
            harden(0, 0, 1) throws IllegalState
            file(0, 0) throws IllegalState
            play(0, 0, 1, 1) throws IllegalState
            perform(0, 1) throws IllegalState
            weather(0, 1, 1) throws IllegalState
            acts() = 300
            limit(0, 'p', 1) = 50
            type(0, 1) = 2
            piano(39, 1, 20000) = 1
            back() = h
            acts() = 299
            weather(1, 1, 45) = 4500
            acts() = 300
            weather(1, 1, 45) throws IllegalState
            """);
    }

    private static void lastActOfEachKind() {
        Script.run("promise 38, the last of 300 may be of each kind", """
            piano(39, 1, 20000) = 0
            string(0, 0, 600, 100, 1) = 607
            type(0, 1) = 1
            298 x harden(0, 0, 1)
            string(0, 0, 600, 100, 2) = 607
            acts() = 300
            back() = s
            tune(0, 0, 1) = -999
            acts() = 300
            back() = t
            adjust(0, 0, 4, 1) = 5
            acts() = 300
            back() = a
            needle(0, 0, 1) = 90
            acts() = 300
            back() = n
            harden(0, 0, 1) = 100
            acts() = 300
            back() = h
            file(0, 0) = 55
            acts() = 300
            back() = f
            play(0, 0, 1, 1) = 1
            acts() = 300
            back() = p
            perform(0, 1) = 0
            acts() = 300
            back() = c
            weather(0, 1, 75) = 4600
            acts() = 300
            back() = w
            acts() = 299
            strings(0, 0) = 1
            pitch(0, 0) = -1000
            """);
    }

    private static void actNumbers() {
        Script.run("promises 39 and 40, acts 0 to 299", """
            piano(39, 1, 20000) = 0
            piano(39, 1, 20000) = 1
            weather(1, 1, 45) = 4500
            298 x harden(0, 0, 1)
            actAt(298) = h
            actAt(299) throws IndexOutOfBounds
            pianoOf(299) throws IndexOutOfBounds
            needle(1, 0, 1) = 45
            actAt(0) = w
            actAt(1) = h
            actAt(299) = n
            pianoOf(0) = 1
            pianoOf(1) = 0
            pianoOf(298) = 0
            pianoOf(299) = 1
            actAt(-1) throws IndexOutOfBounds
            actAt(300) throws IndexOutOfBounds
            actAt(least) throws IndexOutOfBounds
            actAt(most) throws IndexOutOfBounds
            pianoOf(-1) throws IndexOutOfBounds
            pianoOf(300) throws IndexOutOfBounds
            pianoOf(least) throws IndexOutOfBounds
            pianoOf(most) throws IndexOutOfBounds
            """);
    }

    private static void lettersOfActs() {
        Script.run("promises 39 and 41, the letter of each act, and as it is taken back", """
            piano(39, 1, 20000) = 0
            type(0, 1) = 1
            string(0, 0, 600, 100, 1) = 607
            tune(0, 0, 1) = -999
            adjust(0, 0, 0, 1) = 5
            needle(0, 0, 1) = 45
            harden(0, 0, 1) = 46
            file(0, 0) = 55
            play(0, 0, 1, 1) = 1
            perform(0, 1) = 0
            weather(0, 1, 45) = 4500
            actAt(0) = s
            actAt(1) = t
            actAt(2) = a
            actAt(3) = n
            actAt(4) = h
            actAt(5) = f
            actAt(6) = p
            actAt(7) = c
            actAt(8) = w
            actAt(9) throws IndexOutOfBounds
            back() = w
            back() = c
            back() = p
            back() = f
            back() = h
            back() = n
            back() = a
            back() = t
            back() = s
            back() throws NoSuchElement
            wipe() = 1
            """);
    }

    private static void backToNothing() {
        Script.run("promise 41, all that the piano is is as ahead of it", """
            piano(39, 3, 20000) = 0
            string(0, 0, 970, 100, 1) = 1587
            string(0, 1, 600, 100, 3)
            tune(0, 1, 300) = -700
            pitch(0, 0) = -1030
            play(0, 0, 9, 9999) = 0
            borne(0) = 2046
            back() = p
            strings(0, 0) = 1
            tension(0, 0) = 1587
            load(0, 0) = 101
            pitch(0, 0) = -1030
            hardness(0, 0) = 50
            setting(0, 0, 3) = 20
            blows(0, 0) = 0
            borne(0) = 3633
            back() = t
            pitch(0, 0) = -1000
            pitch(0, 1) = -1000
            back() = s
            strings(0, 1) = 0
            tension(0, 1) throws NoSuchElement
            string(0, 0, 600, 100, 2) = 607
            back() = s
            tension(0, 0) = 1587
            load(0, 0) = 101
            strings(0, 0) = 1
            """);
    }

    private static void backLeavesLimits() {
        Script.run("promise 41, limits stay as they are, and the piece does", """
            piano(39, 1, 20000) = 0
            limit(0, 'p', 1) = 50
            harden(0, 0, 1) = 51
            limit(0, 'p', 2) = 1
            limit(0, 'a', 3) = 10
            limit(0, 't', 4) = 15
            type(0, 1) = 1
            back() = h
            limit(0, 'p', 0) = 2
            limit(0, 'a', 0) = 3
            limit(0, 't', 0) = 4
            wipe() = 1
            """);
    }

    private static void backOfMinutesAndBlame() {
        Script.run("promise 41, its minutes, and what is to blame, too", """
            piano(39, 1, 20000) = 0
            limit(0, 'a', 20) = 10
            adjust(0, 0, 4, 1) = 1
            adjust(0, 0, 4, -1) = 0
            adjust(0, 0, 4, 1) = 1
            minutes(0) = 6
            blame(0, 0, 'a') = 2
            back() = a
            minutes(0) = 4
            blame(0, 0, 'a') throws NoSuchElement
            back() = a
            minutes(0) = 2
            blame(0, 0, 'a') = 0
            limit(0, 'a', 0) = 20
            blame(0, 0, 'a') = 0
            back() = a
            minutes(0) = 0
            blame(0, 0, 'a') throws NoSuchElement
            isSound() = true
            """);
    }

    private static void backAcrossPianos() {
        Script.run("promise 41, the piano of the act alone", """
            piano(39, 1, 20000) = 0
            piano(39, 1, 20000) = 1
            weather(0, 1, 75) = 4600
            weather(1, 1, 75) = 4600
            harden(0, 0, 5) = 55
            harden(1, 0, 6) = 56
            back() = h
            hardness(1, 0) = 50
            hardness(0, 0) = 55
            moisture(1) = 4600
            back() = h
            hardness(0, 0) = 50
            moisture(0) = 4600
            back() = w
            moisture(1) = 4500
            moisture(0) = 4600
            minutes(0) = 0
            minutes(1) = 0
            """);
    }

    private static void backAndAnew() {
        Script.run("promise 41, again and again", """
            piano(39, 1, 20000) = 0
            piano(39, 24, 20000) = 1
            harden(0, 0, 5) = 55
            back() = h
            harden(1, 23, 6) = 56
            back() = h
            hardness(1, 23) = 50
            harden(0, 0, 7) = 57
            pianoOf(0) = 0
            back() = h
            hardness(0, 0) = 50
            100 x needle(1, 23, 1)
            100 x back()
            hardness(1, 23) = 50
            acts() = 0
            back() throws NoSuchElement
            """);
    }

    private static void minutes() {
        Script.run("promise 42, minutes of each act, 0 at first", """
            piano(39, 2, 20000) = 0
            piano(39, 1, 20000) = 1
            type(0, 1) = 1
            minutes(0) = 0
            string(0, 0, 600, 100, 1) = 607
            minutes(0) = 20
            string(0, 0, 600, 100, 2) = 607
            minutes(0) = 60
            string(0, 0, 600, 100, 3) = 607
            minutes(0) = 120
            tune(0, 0, -500) = -1500
            minutes(0) = 123
            adjust(0, 0, 0, 50) = 2
            minutes(0) = 125
            needle(0, 0, 1) = 45
            minutes(0) = 126
            needle(0, 0, 20) = 8
            minutes(0) = 146
            2 x needle(0, 0, 20)
            minutes(0) = 186
            harden(0, 0, 50) = 50
            minutes(0) = 190
            file(0, 0) = 55
            minutes(0) = 196
            play(0, 0, 1, 9999) = 3
            perform(0, 999) = 0
            weather(0, 365, 0) = 29
            minutes(0) = 196
            tune(0, 0, 501) throws IllegalArgument
            minutes(0) = 196
            minutes(1) = 0
            minutes(2) throws IndexOutOfBounds
            minutes(-1) throws IndexOutOfBounds
            """);
    }

    private static void checksumOfOneNote() {
        Script.run("promise 43, one note, strung, and not strung any more", """
            checksum(0) throws IndexOutOfBounds
            piano(39, 1, 20000) = 0
            checksum(0) = 427
            string(0, 0, 970, 100, 1) = 1587
            checksum(0) = -572
            tune(0, 0, 3) = -997
            checksum(0) = -569
            play(0, 0, 1, 1) = 0
            checksum(0) = 427
            harden(0, 0, 1) = 51
            checksum(0) = 428
            file(0, 0) = 55
            checksum(0) = 425
            adjust(0, 0, 4, -50) = 5
            checksum(0) = 375
            checksum(1) throws IndexOutOfBounds
            checksum(-1) throws IndexOutOfBounds
            """);
    }

    private static void checksumAroundTheLong() {
        // 7 * 31^n + 210 * (31^n - 1) / 30 stays below 2^63 for 11 notes and goes beyond it for 12
        Script.run("promise 43, a sum that wraps around", """
            piano(39, 11, 20000) = 0
            checksum(0) = 355718676549667627
            piano(39, 12, 20000) = 1
            checksum(1) = -7419465100669854969
            piano(39, 23, 20000) = 2
            checksum(2) = 8408807986169237547
            piano(39, 24, 20000) = 3
            checksum(3) = 2418630539312641543
            adjust(3, 0, 4, 1) = 5
            checksum(3) = -4886487778979363610
            back() = a
            checksum(3) = 2418630539312641543
            """);
    }

    private static void readyShares() {
        Script.run("promise 44, none, some, and all, as float", """
            readyShare(0) throws IndexOutOfBounds
            piano(39, 3, 20000) = 0
            readyShare(0) = 0.0
            limit(0, 'p', 999) = 50
            limit(0, 'a', 20) = 10
            readyShare(0) = 0.0
            string(0, 0, 600, 100, 1) = 607
            tune(0, 0, 500) = -500
            readyShare(0) = 0.33333334
            string(0, 1, 600, 100, 1)
            tune(0, 1, 500) = -500
            readyShare(0) = 0.6666667
            string(0, 2, 600, 100, 1)
            readyShare(0) = 0.6666667
            tune(0, 2, 500) = -500
            readyShare(0) = 1.0
            adjust(0, 2, 2, 1) = 1
            readyShare(0) = 0.6666667
            readyShare(1) throws IndexOutOfBounds
            readyShare(-1) throws IndexOutOfBounds
            """);
    }

    private static void meanTones() {
        Script.run("promise 45, none, one and several strung, as double", """
            meanTone(0) throws IndexOutOfBounds
            piano(39, 4, 20000) = 0
            meanTone(0) throws NoSuchElement
            string(0, 3, 600, 100, 3)
            meanTone(0) = 62.0
            string(0, 0, 970, 100, 1) = 1587
            meanTone(0) = 58.0
            string(0, 1, 600, 100, 1)
            meanTone(0) = 56.666666666666664
            harden(0, 2, 50) = 100
            meanTone(0) = 56.666666666666664
            play(0, 0, 1, 1) = 0
            meanTone(0) = 58.0
            piano(39, 1, 20000) = 1
            string(1, 0, 970, 100, 1) = 1587
            3 x needle(1, 0, 20)
            12 x file(1, 0)
            2 x needle(1, 0, 20)
            meanTone(1) = -8.0
            play(1, 0, 1, 1) = 0
            meanTone(1) throws NoSuchElement
            meanTone(2) throws IndexOutOfBounds
            meanTone(-1) throws IndexOutOfBounds
            """);
    }

    private static void sound() {
        Script.run("promise 46, at all edges", """
            isSound() = true
            piano(39, 2, 1821) = 0
            isSound() = true
            string(0, 0, 600, 100, 3) = 607
            harden(0, 0, 50) = 100
            12 x file(0, 0)
            3 x needle(0, 1, 20)
            hardness(0, 1) = 0
            isSound() = true
            piano(39, 1, 20000) = 1
            limit(0, 'a', 20) = 10
            limit(1, 'a', 20) = 10
            adjust(1, 0, 4, 1) = 1
            isSound() = true
            back() = a
            adjust(0, 0, 4, 1) = 1
            isSound() = true
            back() = a
            adjust(1, 0, 4, 1) = 1
            blame(1, 0, 'a') = 17
            blame(0, 0, 'a') throws NoSuchElement
            isSound() = true
            """);
    }
}
