/** Promises 1 to 8, at each edge that the document names. */
public final class EdgesOfPianosTest {
    public static void main(String[] args) {
        newHouse();
        firstKeys();
        howManyNotes();
        plates();
        fourPianos();
        rates();
        lengths();
        thicknesses();
        howManyStrings();
        plateBearsJustThis();
        ownStringsAreReplaced();
        greatestTensions();
        leastTensions();
        stringsOfANote();
        cutsOfTension();
        cutsOfLoad();
        notStrung();
        borne();
        Checks.end("EdgesOfPianosTest");
    }

    private static void newHouse() {
        Script.run("promise 1, without pianos", """
            acts() = 0
            wipe() = 0
            isSound() = true
            readiest() throws NoSuchElement
            back() throws NoSuchElement
            actAt(0) throws IndexOutOfBounds
            pianoOf(0) throws IndexOutOfBounds
            minutes(0) throws IndexOutOfBounds
            checksum(0) throws IndexOutOfBounds
            strings(0, 0) throws IndexOutOfBounds
            perform(0, 1) throws IndexOutOfBounds
            type(0, 1) = 1
            perform(0, 1) throws IndexOutOfBounds
            rate(0) = 2750
            acts() = 0
            """);
    }

    private static void firstKeys() {
        Script.run("promise 2, first key 0 to 63", """
            piano(-1, 1, 1000) throws IllegalArgument
            piano(64, 1, 1000) throws IllegalArgument
            piano(least, 1, 1000) throws IllegalArgument
            piano(most, 1, 1000) throws IllegalArgument
            readiest() throws NoSuchElement
            piano(0, 1, 1000) = 0
            piano(63, 24, 250000) = 1
            string(0, 0, 2000, 160, 3) = 190
            rateOf(0, 0) = 2591150
            string(1, 23, 50, 90, 3) = 779
            rateOf(1, 23) = 372311600
            string(1, 0, 50, 160, 1) = 172
            """);
    }

    private static void howManyNotes() {
        Script.run("promise 2, 1 to 24 notes", """
            piano(0, 0, 1000) throws IllegalArgument
            piano(0, 25, 1000) throws IllegalArgument
            piano(0, -1, 1000) throws IllegalArgument
            piano(0, least, 1000) throws IllegalArgument
            piano(0, most, 1000) throws IllegalArgument
            piano(63, 1, 1000) = 0
            piano(63, 24, 1000) = 1
            strings(0, 0) = 0
            strings(0, 1) throws IndexOutOfBounds
            faults(0) = 3
            strings(1, 23) = 0
            strings(1, 24) throws IndexOutOfBounds
            faults(1) = 72
            """);
    }

    private static void plates() {
        Script.run("promise 2, a plate of 1000 to 250000", """
            piano(39, 1, 999) throws IllegalArgument
            piano(39, 1, 250001) throws IllegalArgument
            piano(39, 1, 0) throws IllegalArgument
            piano(39, 1, least) throws IllegalArgument
            piano(39, 1, most) throws IllegalArgument
            piano(39, 1, 1000) = 0
            string(0, 0, 497, 155, 1) throws UnsupportedOperation
            string(0, 0, 500, 154, 1) = 1000
            borne(0) = 1000
            piano(63, 24, 250000) = 1
            string(1, 23, 252, 100, 2) = 24451
            string(1, 22, 696, 110, 1) throws UnsupportedOperation
            string(1, 22, 638, 120, 1) = 201098
            borne(1) = 250000
            isSound() = true
            """);
    }

    private static void fourPianos() {
        Script.run("promise 2, at most 4 pianos, numbered from 0", """
            piano(39, 2, 5000) = 0
            string(0, 0, 600, 100, 1) = 607
            limit(0, 'p', 7) = 50
            piano(0, 1, 1000) = 1
            piano(63, 24, 250000) = 2
            minutes(3) throws IndexOutOfBounds
            piano(12, 3, 1000) = 3
            piano(12, 3, 1000) throws IllegalState
            piano(-1, 3, 1000) throws IllegalArgument
            piano(12, 25, 1000) throws IllegalArgument
            piano(12, 3, 999) throws IllegalArgument
            minutes(4) throws IndexOutOfBounds
            minutes(-1) throws IndexOutOfBounds
            minutes(3) = 0
            acts() = 1
            strings(0, 0) = 1
            limit(0, 'p', 50) = 7
            limit(3, 'p', 50) = 50
            moisture(3) = 4500
            back() = s
            piano(12, 3, 1000) throws IllegalState
            """);
    }

    private static void rates() {
        Script.run("promise 3, keys 0 to 87, twelve rates doubled", """
            rate(-1) throws IllegalArgument
            rate(88) throws IllegalArgument
            rate(least) throws IllegalArgument
            rate(most) throws IllegalArgument
            rate(0) = 2750
            rate(1) = 2914
            rate(2) = 3087
            rate(3) = 3270
            rate(4) = 3465
            rate(5) = 3671
            rate(6) = 3889
            rate(7) = 4120
            rate(8) = 4365
            rate(9) = 4625
            rate(10) = 4900
            rate(11) = 5191
            rate(12) = 5500
            rate(23) = 10382
            rate(24) = 11000
            rate(83) = 332224
            rate(84) = 352000
            rate(86) = 395136
            rate(87) = 418560
            """);
    }

    private static void lengths() {
        Script.run("promise 4, length 50 to 2000", """
            piano(39, 1, 250000) = 0
            string(0, 0, 49, 100, 1) throws IllegalArgument
            string(0, 0, 2001, 100, 1) throws IllegalArgument
            string(0, 0, 0, 100, 1) throws IllegalArgument
            string(0, 0, least, 100, 1) throws IllegalArgument
            string(0, 0, most, 100, 1) throws IllegalArgument
            acts() = 0
            string(0, 0, 50, 100, 1) = 4
            string(0, 0, 2000, 100, 1) = 6750
            string(0, 0, 49, 100, 1) throws IllegalArgument
            tension(0, 0) = 6750
            """);
    }

    private static void thicknesses() {
        Script.run("promise 4, thickness 70 to 160", """
            piano(39, 1, 250000) = 0
            string(0, 0, 600, 69, 1) throws IllegalArgument
            string(0, 0, 600, 161, 1) throws IllegalArgument
            string(0, 0, 600, least, 1) throws IllegalArgument
            string(0, 0, 600, most, 1) throws IllegalArgument
            strings(0, 0) = 0
            string(0, 0, 600, 70, 1) = 297
            string(0, 0, 600, 160, 1) = 1555
            string(0, 0, 600, 161, 1) throws IllegalArgument
            tension(0, 0) = 1555
            """);
    }

    private static void howManyStrings() {
        Script.run("promise 4, 1 to 3 strings", """
            piano(39, 1, 250000) = 0
            string(0, 0, 600, 100, 0) throws IllegalArgument
            string(0, 0, 600, 100, 4) throws IllegalArgument
            string(0, 0, 600, 100, -1) throws IllegalArgument
            string(0, 0, 600, 100, least) throws IllegalArgument
            string(0, 0, 600, 100, most) throws IllegalArgument
            minutes(0) = 0
            string(0, 0, 600, 100, 1) = 607
            minutes(0) = 20
            string(0, 0, 600, 100, 3) = 607
            minutes(0) = 80
            strings(0, 0) = 3
            string(0, 0, 600, 100, 0) throws IllegalArgument
            strings(0, 0) = 3
            """);
    }

    private static void plateBearsJustThis() {
        Script.run("promise 4, no note is strung so that the plate bears more than told", """
            piano(39, 3, 2428) = 0
            string(0, 0, 600, 100, 3) = 607
            string(0, 1, 570, 100, 1) throws UnsupportedOperation
            strings(0, 1) = 0
            string(0, 1, 566, 100, 1) = 607
            borne(0) = 2428
            string(0, 2, 50, 70, 1) throws UnsupportedOperation
            string(0, 1, 566, 100, 2) throws UnsupportedOperation
            strings(0, 1) = 1
            acts() = 2
            minutes(0) = 80
            piano(39, 3, 2427) = 1
            string(1, 0, 600, 100, 3) = 607
            string(1, 1, 566, 100, 1) throws UnsupportedOperation
            borne(1) = 1821
            """);
    }

    private static void ownStringsAreReplaced() {
        Script.run("promise 4, in place of strings that it has", """
            piano(39, 2, 1821) = 0
            string(0, 0, 600, 100, 3) = 607
            harden(0, 0, 5) = 55
            adjust(0, 0, 4, 3) = 5
            play(0, 0, 1, 10) = 3
            tune(0, 0, 500) = -500
            string(0, 0, 600, 100, 3) = 607
            pitch(0, 0) = -1000
            blows(0, 0) = 10
            hardness(0, 0) = 55
            setting(0, 0, 4) = 23
            borne(0) = 1821
            string(0, 0, 601, 100, 3) throws UnsupportedOperation
            tension(0, 0) = 607
            string(0, 0, 500, 100, 3) = 421
            borne(0) = 1263
            string(0, 1, 570, 90, 1) = 498
            borne(0) = 1761
            """);
    }

    private static void greatestTensions() {
        // 2000 * 395136 / 1000 is 790272, and that by itself is beyond int
        Script.run("promise 4, tensions far beyond the plate", """
            piano(63, 24, 250000) = 0
            string(0, 23, 2000, 160, 3) throws UnsupportedOperation
            string(0, 23, 2000, 160, 1) throws UnsupportedOperation
            string(0, 23, 2000, 70, 3) throws UnsupportedOperation
            string(0, 0, 2000, 160, 3) throws UnsupportedOperation
            string(0, 0, 2000, 160, 1) throws UnsupportedOperation
            string(0, 23, 252, 100, 2) = 24451
            string(0, 23, 2000, 160, 3) throws UnsupportedOperation
            borne(0) = 48902
            """);
    }

    private static void leastTensions() {
        Script.run("promise 4, a tension and a load of 0", """
            piano(0, 1, 1000) = 0
            string(0, 0, 50, 70, 3) = 0
            strings(0, 0) = 3
            tension(0, 0) = 0
            load(0, 0) = 0
            borne(0) = 0
            pitch(0, 0) = -1000
            rateOf(0, 0) = 2591150
            tone(0, 0) = 62
            play(0, 0, 9, 9999) = 3
            """);
    }

    private static void stringsOfANote() {
        Script.run("promise 5, 0 at first, then 1 to 3, fewer as they break", """
            piano(39, 2, 20000) = 0
            strings(0, 0) = 0
            string(0, 0, 970, 100, 1) = 1587
            strings(0, 0) = 1
            string(0, 0, 970, 100, 2) = 1587
            strings(0, 0) = 2
            string(0, 0, 970, 100, 3) = 1587
            strings(0, 0) = 3
            play(0, 0, 1, 1) = 2
            strings(0, 0) = 2
            play(0, 0, 1, 1) = 1
            play(0, 0, 1, 1) = 0
            strings(0, 0) = 0
            strings(0, 1) = 0
            strings(0, 2) throws IndexOutOfBounds
            strings(0, -1) throws IndexOutOfBounds
            strings(1, 0) throws IndexOutOfBounds
            back() = p
            strings(0, 0) = 1
            """);
    }

    private static void cutsOfTension() {
        // 1999 * 26.16 is cut to 52293; 1629 * 26.16 to 42614; 1631 * 29.368 to 47899
        Script.run("promise 6, x and the tension are cut", """
            piano(39, 1, 250000) = 0
            string(0, 0, 1999, 153, 1) = 15786
            string(0, 0, 1629, 88, 1) = 3468
            tension(0, 0) = 3468
            piano(41, 1, 250000) = 1
            string(1, 0, 1631, 130, 1) = 9561
            tension(1, 0) = 9561
            """);
    }

    private static void cutsOfLoad() {
        // 1570 * 71 * 71 / 10000 is 791.4: 340200 by 791 is 430, by what isn't cut 429
        Script.run("promise 7, the load is cut both times, the last one ahead of the first", """
            piano(39, 1, 250000) = 0
            string(0, 0, 2000, 71, 1) = 3402
            load(0, 0) = 430
            string(0, 0, 829, 100, 1) = 1159
            load(0, 0) = 73
            string(0, 0, 830, 100, 1) = 1162
            load(0, 0) = 74
            string(0, 0, 600, 100, 3) = 607
            load(0, 0) = 38
            """);
    }

    private static void notStrung() {
        Script.run("promises 6 and 7, a note that is not strung, or not any more", """
            piano(39, 2, 20000) = 0
            tension(0, 0) throws NoSuchElement
            load(0, 0) throws NoSuchElement
            string(0, 0, 970, 100, 1) = 1587
            tension(0, 0) = 1587
            load(0, 0) = 101
            tension(0, 1) throws NoSuchElement
            load(0, 1) throws NoSuchElement
            play(0, 0, 1, 1) = 0
            tension(0, 0) throws NoSuchElement
            load(0, 0) throws NoSuchElement
            tension(0, 2) throws IndexOutOfBounds
            load(0, 2) throws IndexOutOfBounds
            tension(1, 0) throws IndexOutOfBounds
            load(-1, 0) throws IndexOutOfBounds
            """);
    }

    private static void borne() {
        Script.run("promise 8, the tensions of all strings of all notes", """
            piano(39, 24, 250000) = 0
            borne(0) = 0
            string(0, 0, 970, 100, 3) = 1587
            borne(0) = 4761
            string(0, 23, 150, 100, 2) = 541
            borne(0) = 5843
            play(0, 0, 1, 1) = 2
            borne(0) = 4256
            2 x play(0, 0, 1, 1)
            borne(0) = 1082
            back() = p
            borne(0) = 2669
            piano(39, 1, 1000) = 1
            borne(1) = 0
            borne(2) throws IndexOutOfBounds
            borne(-1) throws IndexOutOfBounds
            """);
    }
}
