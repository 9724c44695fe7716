import java.util.NoSuchElementException;

/** A house that makes and keeps pianos. What each call promises stands in the document. */
public final class Hammerline {
    private static final int MOST_PIANOS = 4;
    private static final int MOST_NOTES = 24;
    private static final int MOST_ACTS = 300;
    private static final int MOST_TYPED = 30;
    private static final int LAST_KEY = 87;
    private static final int LAST_FIRST_KEY = 63;
    private static final int FARTHEST_TUNING = 500;
    private static final int PARTIALS = 8;

    private static final int SETTINGS = 5;
    private static final int SPRING = 3;

    private static final int LIMITS = 3;
    private static final int PITCH_LIMIT = 0;
    private static final int ACTION_LIMIT = 1;
    private static final int TONE_LIMIT = 2;

    private static final int PROPER_TONE = 60;
    private static final int HARDEST = 100;
    private static final int NEW_FELT = 60;
    private static final int FELT_FILED_OFF = 5;
    private static final int NOBODY = -1;

    /** Cells of a kept piano: its minutes and moisture, then its notes one after another. */
    private static final int PIANO_CELLS = 2;
    private static final int NOTE_CELLS = 15;
    private static final int ROW_CELLS = PIANO_CELLS + MOST_NOTES * NOTE_CELLS;

    /** Proper rates of the lowest twelve keys. */
    private static final int[] LOWEST_RATES = {
        2750, 2914, 3087, 3270, 3465, 3671, 3889, 4120, 4365, 4625, 4900, 5191
    };

    /** Five for each setting: the tenths of its change that each of the five changes by, itself by all ten. */
    private static final int[] LINKS = {
        10, -5, -3, 2, -4,
        0, 10, 4, 0, 0,
        0, 0, 10, 0, 0,
        0, 0, 3, 10, 1,
        0, 0, 0, 0, 10
    };

    /** How strongly moisture moves the lowest, the middle and the highest third. */
    private static final int[] SWELLINGS = {3, 5, 4};

    private final Piano[] pianos = new Piano[MOST_PIANOS];
    private final Piece piece = new Piece();
    private final Log log = new Log();
    private int pianoCount;

    /** Makes a house without pianos. */
    public Hammerline() {
    }

    // pianos and strings

    public int piano(int first, int notes, int plate) throws IllegalArgumentException, IllegalStateException {
        demandRange(first, 0, LAST_FIRST_KEY);
        demandRange(notes, 1, MOST_NOTES);
        demandRange(plate, 1000, 250000);
        int number = pianoCount;
        if (number < 0 || number >= pianos.length) {
            throw new IllegalStateException();
        }
        pianos[number] = new Piano(first, notes, plate);
        pianoCount = number + 1;
        return number;
    }

    public int rate(int key) throws IllegalArgumentException {
        demandRange(key, 0, LAST_KEY);
        return properRate(key);
    }

    public int string(int piano, int note, int length, int thickness, int strings)
            throws IndexOutOfBoundsException, IllegalArgumentException, UnsupportedOperationException,
            IllegalStateException {
        Piano owner = demandPiano(piano);
        Note strung = demandNote(owner, note);
        demandRange(length, 50, 2000);
        demandRange(thickness, 70, 160);
        demandRange(strings, 1, 3);
        int pull = strung.pullOf(length, thickness);
        if (owner.weightOnPlate() - strung.weightOnPlate() + strings * pull > owner.plate) {
            throw new UnsupportedOperationException();
        }
        demandRoomForAct();
        begin('s', piano, owner);
        strung.fitStrings(strings, pull, thickness);
        owner.minutes += 20 * strings;
        finish(owner);
        return pull;
    }

    public int strings(int piano, int note) throws IndexOutOfBoundsException {
        return demandNote(demandPiano(piano), note).strings;
    }

    public int tension(int piano, int note) throws IndexOutOfBoundsException, NoSuchElementException {
        return demandStrungNote(demandPiano(piano), note).tension;
    }

    public int load(int piano, int note) throws IndexOutOfBoundsException, NoSuchElementException {
        return demandStrungNote(demandPiano(piano), note).load;
    }

    public int borne(int piano) throws IndexOutOfBoundsException {
        return demandPiano(piano).weightOnPlate();
    }

    // pitch

    public int pitch(int piano, int note) throws IndexOutOfBoundsException, NoSuchElementException {
        return demandStrungNote(demandPiano(piano), note).pitch;
    }

    public int tune(int piano, int note, int by)
            throws IndexOutOfBoundsException, IllegalArgumentException, UnsupportedOperationException,
            IllegalStateException {
        Piano owner = demandPiano(piano);
        Note tuned = demandNote(owner, note);
        demandRange(by, -FARTHEST_TUNING, FARTHEST_TUNING);
        demandWorkOnStrings(tuned);
        demandRoomForAct();
        begin('t', piano, owner);
        tuned.pitch += by;
        owner.letOthersFall(note, by * tuned.strings);
        owner.minutes += 3;
        finish(owner);
        return tuned.pitch;
    }

    public long rateOf(int piano, int note) throws IndexOutOfBoundsException, NoSuchElementException {
        return demandStrungNote(demandPiano(piano), note).rateTunedBy(0);
    }

    public long beats(int piano, int note, int partial, int other, int its)
            throws IndexOutOfBoundsException, IllegalArgumentException, NoSuchElementException {
        Piano owner = demandPiano(piano);
        Note one = demandNote(owner, note);
        Note another = demandNote(owner, other);
        demandRange(partial, 1, PARTIALS);
        demandRange(its, 1, PARTIALS);
        demandStrings(one);
        demandStrings(another);
        return beatsBetween(partial * one.rateTunedBy(0), its * another.rateTunedBy(0));
    }

    public int quietest(int piano, int note, int partial, int other, int its)
            throws IndexOutOfBoundsException, IllegalArgumentException, NoSuchElementException {
        Piano owner = demandPiano(piano);
        Note one = demandNote(owner, note);
        Note another = demandNote(owner, other);
        demandRange(partial, 1, PARTIALS);
        demandRange(its, 1, PARTIALS);
        if (note == other) {
            throw new IllegalArgumentException();
        }
        demandStrings(one);
        demandStrings(another);
        return quietestTuning(one, partial, its * another.rateTunedBy(0));
    }

    // actions and hammers

    public int setting(int piano, int note, int setting) throws IndexOutOfBoundsException, IllegalArgumentException {
        Note asked = demandNote(demandPiano(piano), note);
        if (setting < 0 || setting >= asked.settings.length) {
            throw new IllegalArgumentException();
        }
        return asked.settings[setting];
    }

    public int adjust(int piano, int note, int setting, int by)
            throws IndexOutOfBoundsException, IllegalArgumentException, IllegalStateException {
        Piano owner = demandPiano(piano);
        Note adjusted = demandNote(owner, note);
        demandRange(setting, 0, SETTINGS - 1);
        demandRange(by, -50, 50);
        demandRoomForAct();
        begin('a', piano, owner);
        adjusted.moveSettings(setting, by);
        owner.minutes += 2;
        finish(owner);
        return adjusted.settingsBeyond(owner.limits[ACTION_LIMIT]);
    }

    public int hardness(int piano, int note) throws IndexOutOfBoundsException {
        return demandNote(demandPiano(piano), note).hardness;
    }

    public int felt(int piano, int note) throws IndexOutOfBoundsException {
        return demandNote(demandPiano(piano), note).felt;
    }

    public int needle(int piano, int note, int times)
            throws IndexOutOfBoundsException, IllegalArgumentException, IllegalStateException {
        Piano owner = demandPiano(piano);
        Note needled = demandNote(owner, note);
        demandRange(times, 1, 20);
        demandRoomForAct();
        begin('n', piano, owner);
        needled.softenHammer(times);
        owner.minutes += times;
        finish(owner);
        return needled.hardness;
    }

    public int harden(int piano, int note, int by)
            throws IndexOutOfBoundsException, IllegalArgumentException, IllegalStateException {
        Piano owner = demandPiano(piano);
        Note hardened = demandNote(owner, note);
        demandRange(by, 1, 50);
        demandRoomForAct();
        begin('h', piano, owner);
        hardened.hardenHammer(by);
        owner.minutes += 4;
        finish(owner);
        return hardened.hardness;
    }

    public int file(int piano, int note)
            throws IndexOutOfBoundsException, UnsupportedOperationException, IllegalStateException {
        Piano owner = demandPiano(piano);
        Note filed = demandNote(owner, note);
        if (filed.felt < FELT_FILED_OFF) {
            throw new UnsupportedOperationException();
        }
        demandRoomForAct();
        begin('f', piano, owner);
        filed.felt -= FELT_FILED_OFF;
        filed.hardenHammer(2);
        owner.minutes += 6;
        finish(owner);
        return filed.felt;
    }

    public int tone(int piano, int note) throws IndexOutOfBoundsException, NoSuchElementException {
        return demandStrungNote(demandPiano(piano), note).toneNow();
    }

    public int uneven(int piano) throws IndexOutOfBoundsException {
        return demandPiano(piano).greatestStep();
    }

    // playing and rooms

    public int play(int piano, int note, int force, int times)
            throws IndexOutOfBoundsException, IllegalArgumentException, UnsupportedOperationException,
            IllegalStateException {
        Piano owner = demandPiano(piano);
        Note played = demandNote(owner, note);
        demandRange(force, 1, 9);
        demandRange(times, 1, 9999);
        demandWorkOnStrings(played);
        demandRoomForAct();
        begin('p', piano, owner);
        played.strike(force, times);
        finish(owner);
        return played.strings;
    }

    public int blows(int piano, int note) throws IndexOutOfBoundsException {
        return demandNote(demandPiano(piano), note).blows;
    }

    public int type(int note, int force) throws IllegalArgumentException, IllegalStateException {
        demandRange(note, 0, MOST_NOTES - 1);
        demandRange(force, 1, 9);
        if (piece.isFull()) {
            throw new IllegalStateException();
        }
        piece.append(note, force);
        return piece.count;
    }

    public int wipe() {
        int had = piece.count;
        piece.count = 0;
        return had;
    }

    public int perform(int piano, int times)
            throws IndexOutOfBoundsException, IllegalArgumentException, UnsupportedOperationException,
            IllegalStateException {
        Piano owner = demandPiano(piano);
        demandRange(times, 1, 999);
        if (piece.count == 0) {
            throw new UnsupportedOperationException();
        }
        demandRoomForAct();
        int good = piece.countReadyOn(owner);
        begin('c', piano, owner);
        piece.strikeOn(owner, times);
        finish(owner);
        return good;
    }

    public int weather(int piano, int days, int moisture)
            throws IndexOutOfBoundsException, IllegalArgumentException, IllegalStateException {
        Piano owner = demandPiano(piano);
        demandRange(days, 1, 365);
        demandRange(moisture, 0, 99);
        demandRoomForAct();
        begin('w', piano, owner);
        owner.standInAir(days, moisture);
        finish(owner);
        return owner.moisture;
    }

    public int moisture(int piano) throws IndexOutOfBoundsException {
        return demandPiano(piano).moisture;
    }

    // limits and faults

    public int limit(int piano, char what, int limit) throws IndexOutOfBoundsException, IllegalArgumentException {
        Piano owner = demandPiano(piano);
        int which = demandLimit(what);
        demandRange(limit, 0, 999);
        int before = owner.limitAt(which);
        owner.tellLimit(which, limit);
        return before;
    }

    public boolean isWithin(int piano, int note, char what)
            throws IndexOutOfBoundsException, IllegalArgumentException {
        Piano owner = demandPiano(piano);
        Note asked = demandNote(owner, note);
        int which = demandLimit(what);
        return asked.keeps(which, owner.limitAt(which));
    }

    public int worst(int piano, int note) throws IndexOutOfBoundsException {
        return demandNote(demandPiano(piano), note).farthestSetting();
    }

    public int faults(int piano) throws IndexOutOfBoundsException {
        return demandPiano(piano).countFaults();
    }

    public int fault(int piano, int index) throws IndexOutOfBoundsException, NoSuchElementException {
        int found = demandPiano(piano).faultNumbered(index);
        if (found < 0) {
            throw new NoSuchElementException();
        }
        return found;
    }

    public boolean isReady(int piano) throws IndexOutOfBoundsException {
        return demandPiano(piano).countFaults() == 0;
    }

    public int readiest() throws NoSuchElementException {
        int best = NOBODY;
        int fewest = 0;
        for (int i = 0; i < pianos.length; i++) {
            Piano asked = pianos[i];
            if (asked != null) {
                int count = asked.countFaults();
                if (best == NOBODY || count < fewest) {
                    best = i;
                    fewest = count;
                }
            }
        }
        if (best == NOBODY) {
            throw new NoSuchElementException();
        }
        return best;
    }

    public int blame(int piano, int note, char what)
            throws IndexOutOfBoundsException, IllegalArgumentException, NoSuchElementException {
        Piano owner = demandPiano(piano);
        Note asked = demandNote(owner, note);
        int which = demandLimit(what);
        int culprit = asked.culpritFor(which);
        if (asked.keeps(which, owner.limitAt(which)) || culprit == NOBODY) {
            throw new NoSuchElementException();
        }
        return culprit;
    }

    // acts

    public int acts() {
        return log.count;
    }

    public char actAt(int act) throws IndexOutOfBoundsException {
        if (!log.holds(act)) {
            throw new IndexOutOfBoundsException();
        }
        return log.kinds[act];
    }

    public int pianoOf(int act) throws IndexOutOfBoundsException {
        if (!log.holds(act)) {
            throw new IndexOutOfBoundsException();
        }
        return log.owners[act];
    }

    public char back() throws NoSuchElementException {
        int last = log.count - 1;
        if (!log.holds(last)) {
            throw new NoSuchElementException();
        }
        Piano owner = pianoOrNull(log.owners[last]);
        int[] row = log.rows[last];
        if (owner != null && row != null) {
            owner.restoreFrom(row);
        }
        log.count = last;
        return log.kinds[last];
    }

    public int minutes(int piano) throws IndexOutOfBoundsException {
        return demandPiano(piano).minutes;
    }

    // figures

    public long checksum(int piano) throws IndexOutOfBoundsException {
        return demandPiano(piano).sumOver();
    }

    public float readyShare(int piano) throws IndexOutOfBoundsException {
        Piano asked = demandPiano(piano);
        int all = asked.notes.length;
        if (all == 0) {
            return 0.0f;
        }
        return (float) asked.countReadyNotes() / (float) all;
    }

    public double meanTone(int piano) throws IndexOutOfBoundsException, NoSuchElementException {
        Piano asked = demandPiano(piano);
        int strung = asked.countStrungNotes();
        if (strung == 0) {
            throw new NoSuchElementException();
        }
        return (double) asked.sumOfTones() / (double) strung;
    }

    public boolean isSound() {
        for (int i = 0; i < pianos.length; i++) {
            Piano asked = pianos[i];
            if (asked != null && !isSoundPiano(i, asked)) {
                return false;
            }
        }
        return true;
    }

    // what calls demand

    private static void demandRange(int number, int least, int most) {
        if (number < least || number > most) {
            throw new IllegalArgumentException();
        }
    }

    private Piano pianoOrNull(int piano) {
        return piano >= 0 && piano < pianos.length ? pianos[piano] : null;
    }

    private Piano demandPiano(int piano) {
        Piano found = pianoOrNull(piano);
        if (found == null) {
            throw new IndexOutOfBoundsException();
        }
        return found;
    }

    private static Note demandNote(Piano owner, int note) {
        Note found = owner.noteOrNull(note);
        if (found == null) {
            throw new IndexOutOfBoundsException();
        }
        return found;
    }

    private static Note demandStrungNote(Piano owner, int note) {
        Note found = demandNote(owner, note);
        demandStrings(found);
        return found;
    }

    private static void demandStrings(Note asked) {
        if (!asked.isStrung()) {
            throw new NoSuchElementException();
        }
    }

    private static void demandWorkOnStrings(Note worked) {
        if (!worked.isStrung()) {
            throw new UnsupportedOperationException();
        }
    }

    private static int demandLimit(char what) {
        switch (what) {
            case 'p':
                return PITCH_LIMIT;
            case 'a':
                return ACTION_LIMIT;
            case 't':
                return TONE_LIMIT;
            default:
                throw new IllegalArgumentException();
        }
    }

    private void demandRoomForAct() {
        if (log.isFull()) {
            throw new IllegalStateException();
        }
    }

    // how acts are done

    /** Keeps the piano as it is ahead of the act, so that the act can be taken back and blamed. */
    private void begin(char kind, int piano, Piano owner) {
        int[] row = log.nextRow();
        if (row != null) {
            owner.keepIn(row);
            log.append(kind, piano);
        }
        owner.noteWhatIsWithin();
    }

    private void finish(Piano owner) {
        owner.layBlame(log.count - 1);
    }

    private boolean isSoundPiano(int number, Piano asked) {
        if (asked.weightOnPlate() > asked.plate) {
            return false;
        }
        for (Note note : asked.notes) {
            if (!note.hasSoundHammer()) {
                return false;
            }
            for (int culprit : note.culprits) {
                if (culprit != NOBODY && !(log.holds(culprit) && log.owners[culprit] == number)) {
                    return false;
                }
            }
        }
        return true;
    }

    // sums

    private static int properRate(int key) {
        return LOWEST_RATES[Math.floorMod(key, LOWEST_RATES.length)] << (key / LOWEST_RATES.length);
    }

    private static long beatsBetween(long one, long another) {
        return Math.abs(one - another) / 1000;
    }

    /** Goes outward from no tuning, up ahead of down, so that the first of several least ones is the one asked. */
    private static int quietestTuning(Note one, int partial, long target) {
        int found = 0;
        long least = beatsBetween(partial * one.rateTunedBy(0), target);
        for (int amount = 1; amount <= FARTHEST_TUNING; amount++) {
            long above = beatsBetween(partial * one.rateTunedBy(amount), target);
            if (above < least) {
                least = above;
                found = amount;
            }
            long below = beatsBetween(partial * one.rateTunedBy(-amount), target);
            if (below < least) {
                least = below;
                found = -amount;
            }
        }
        return found;
    }

    /** A note of a piano: its strings, its action and its hammer. */
    private static final class Note {
        private final int proper;
        private int strings;
        private int tension;
        private int load;
        private int pitch;
        private int hardness = 50;
        private int felt = NEW_FELT;
        private int blows;
        private final int[] settings = {20, 20, 20, 20, 20};
        private final int[] culprits = {NOBODY, NOBODY, NOBODY};
        private final boolean[] wasWithin = new boolean[LIMITS];

        Note(int key) {
            proper = properRate(key);
        }

        boolean isStrung() {
            return strings > 0;
        }

        int weightOnPlate() {
            return strings * tension;
        }

        int pullOf(int length, int thickness) {
            long x = (long) length * proper / 1000;
            return (int) (x * x * thickness * thickness / 4055000000L);
        }

        void fitStrings(int count, int pull, int thickness) {
            strings = count;
            tension = pull;
            int bearable = 1570 * thickness * thickness / 10000;
            load = bearable > 0 ? 100 * pull / bearable : 0;
            pitch = -1000;
        }

        long rateTunedBy(int tenths) {
            return 1000L * proper * (17312 + pitch + tenths) / 17312;
        }

        int toneNow() {
            return hardness + 4 * strings - (NEW_FELT - felt) / 5;
        }

        void moveSettings(int moved, int by) {
            for (int i = 0; i < settings.length; i++) {
                int link = moved * SETTINGS + i;
                if (link >= 0 && link < LINKS.length) {
                    settings[i] += by * LINKS[link] / 10;
                }
            }
        }

        int settingsBeyond(int limit) {
            int beyond = 0;
            for (int tenths : settings) {
                if (Math.abs(tenths) > limit) {
                    beyond++;
                }
            }
            return beyond;
        }

        int farthestSetting() {
            int found = 0;
            int farthest = -1;
            for (int i = 0; i < settings.length; i++) {
                int distance = Math.abs(settings[i]);
                if (distance > farthest) {
                    farthest = distance;
                    found = i;
                }
            }
            return found;
        }

        void softenHammer(int times) {
            for (int i = 0; i < times && hardness > 0; i++) {
                hardness -= Math.max(1, hardness / 10);
            }
        }

        void hardenHammer(int by) {
            hardness = Math.min(HARDEST, hardness + by);
        }

        boolean hasSoundHammer() {
            return hardness >= 0 && hardness <= HARDEST && felt >= 0 && felt <= NEW_FELT;
        }

        void strike(int force, int times) {
            hardenHammer(force * times / 500);
            pitch -= force * force * times / 2000;
            settings[SPRING] -= force * times / 1000;
            blows += times;
            if (load + 3 * force > 100) {
                strings--;
            }
        }

        boolean keeps(int which, int limit) {
            switch (which) {
                case PITCH_LIMIT:
                    return isStrung() && Math.abs(pitch) <= limit;
                case ACTION_LIMIT:
                    return settingsBeyond(limit) == 0;
                default:
                    return isStrung() && Math.abs(toneNow() - PROPER_TONE) <= limit;
            }
        }

        int culpritFor(int which) {
            return which >= 0 && which < culprits.length ? culprits[which] : NOBODY;
        }

        long sumOfState() {
            long sum = strings + hardness + felt;
            if (isStrung()) {
                sum += pitch;
            }
            for (int tenths : settings) {
                sum += tenths;
            }
            return sum;
        }

        /** Writes NOTE_CELLS cells, in the order in which restoreFrom reads them. */
        void keepIn(int[] row, int from) {
            if (from < 0 || from > row.length - NOTE_CELLS) {
                return;
            }
            row[from] = strings;
            row[from + 1] = tension;
            row[from + 2] = load;
            row[from + 3] = pitch;
            row[from + 4] = hardness;
            row[from + 5] = felt;
            row[from + 6] = blows;
            for (int i = 0; i < SETTINGS; i++) {
                row[from + 7 + i] = settings[i];
            }
            for (int i = 0; i < LIMITS; i++) {
                row[from + 7 + SETTINGS + i] = culprits[i];
            }
        }

        void restoreFrom(int[] row, int from) {
            if (from < 0 || from > row.length - NOTE_CELLS) {
                return;
            }
            strings = row[from];
            tension = row[from + 1];
            load = row[from + 2];
            pitch = row[from + 3];
            hardness = row[from + 4];
            felt = row[from + 5];
            blows = row[from + 6];
            for (int i = 0; i < SETTINGS; i++) {
                settings[i] = row[from + 7 + i];
            }
            for (int i = 0; i < LIMITS; i++) {
                culprits[i] = row[from + 7 + SETTINGS + i];
            }
        }
    }

    /** A piano: its notes, its limits and the room that it stands in. */
    private static final class Piano {
        private final int plate;
        private final Note[] notes;
        private final int[] limits = {50, 10, 15};
        private int minutes;
        private int moisture = 4500;

        /** Takes 0 to MOST_NOTES notes alone, so that a kept piano always fits in a row. */
        Piano(int first, int count, int plateBears) {
            plate = plateBears;
            notes = new Note[Math.max(0, Math.min(count, MOST_NOTES))];
            for (int i = 0; i < notes.length; i++) {
                notes[i] = new Note(first + i);
            }
        }

        Note noteOrNull(int note) {
            return note >= 0 && note < notes.length ? notes[note] : null;
        }

        int weightOnPlate() {
            int sum = 0;
            for (Note note : notes) {
                sum += note.weightOnPlate();
            }
            return sum;
        }

        void letOthersFall(int tuned, int pull) {
            for (int i = 0; i < notes.length; i++) {
                int distance = Math.abs(i - tuned);
                if (distance > 0 && notes[i].isStrung()) {
                    notes[i].pitch -= pull / (30 * distance);
                }
            }
        }

        int greatestStep() {
            int greatest = 0;
            int before = 0;
            boolean hasBefore = false;
            for (Note note : notes) {
                if (note.isStrung()) {
                    int here = note.toneNow();
                    if (hasBefore) {
                        greatest = Math.max(greatest, Math.abs(here - before));
                    }
                    before = here;
                    hasBefore = true;
                }
            }
            return greatest;
        }

        void standInAir(int days, int air) {
            int ahead = moisture;
            for (int i = 0; i < days; i++) {
                moisture += (100 * air - moisture) / 30;
            }
            int more = moisture - ahead;
            for (int i = 0; i < notes.length; i++) {
                int third = 3 * i / notes.length;
                if (notes[i].isStrung() && third < SWELLINGS.length) {
                    notes[i].pitch += more * SWELLINGS[third] / 200;
                }
            }
        }

        int limitAt(int which) {
            return which >= 0 && which < limits.length ? limits[which] : 0;
        }

        void tellLimit(int which, int limit) {
            if (which >= 0 && which < limits.length) {
                limits[which] = limit;
            }
        }

        boolean isReadyNote(Note note) {
            return note.keeps(PITCH_LIMIT, limits[PITCH_LIMIT])
                && note.keeps(ACTION_LIMIT, limits[ACTION_LIMIT])
                && note.keeps(TONE_LIMIT, limits[TONE_LIMIT]);
        }

        int countFaults() {
            int count = 0;
            for (Note note : notes) {
                for (int which = 0; which < LIMITS; which++) {
                    if (!note.keeps(which, limits[which])) {
                        count++;
                    }
                }
            }
            return count;
        }

        /** Answers NOBODY if there is no such fault. */
        int faultNumbered(int index) {
            int ahead = index;
            for (int i = 0; i < notes.length && ahead >= 0; i++) {
                for (int which = 0; which < LIMITS; which++) {
                    if (!notes[i].keeps(which, limits[which])) {
                        if (ahead == 0) {
                            return 10 * i + which;
                        }
                        ahead--;
                    }
                }
            }
            return NOBODY;
        }

        void noteWhatIsWithin() {
            for (Note note : notes) {
                for (int which = 0; which < LIMITS; which++) {
                    note.wasWithin[which] = note.keeps(which, limits[which]);
                }
            }
        }

        /** Acts are judged as a whole, so this looks at the piano ahead of the act and now, not in between. */
        void layBlame(int act) {
            for (Note note : notes) {
                for (int which = 0; which < LIMITS; which++) {
                    if (note.wasWithin[which] && !note.keeps(which, limits[which])) {
                        note.culprits[which] = act;
                    }
                }
            }
        }

        int countReadyNotes() {
            int count = 0;
            for (Note note : notes) {
                if (isReadyNote(note)) {
                    count++;
                }
            }
            return count;
        }

        int countStrungNotes() {
            int count = 0;
            for (Note note : notes) {
                if (note.isStrung()) {
                    count++;
                }
            }
            return count;
        }

        int sumOfTones() {
            int sum = 0;
            for (Note note : notes) {
                if (note.isStrung()) {
                    sum += note.toneNow();
                }
            }
            return sum;
        }

        long sumOver() {
            long sum = 7;
            for (Note note : notes) {
                sum = 31 * sum + note.sumOfState();
            }
            return sum;
        }

        void keepIn(int[] row) {
            if (row.length < PIANO_CELLS) {
                return;
            }
            row[0] = minutes;
            row[1] = moisture;
            for (int i = 0; i < notes.length; i++) {
                notes[i].keepIn(row, PIANO_CELLS + i * NOTE_CELLS);
            }
        }

        void restoreFrom(int[] row) {
            if (row.length < PIANO_CELLS) {
                return;
            }
            minutes = row[0];
            moisture = row[1];
            for (int i = 0; i < notes.length; i++) {
                notes[i].restoreFrom(row, PIANO_CELLS + i * NOTE_CELLS);
            }
        }
    }

    /** The piece: notes with forces, which any piano may perform. */
    private static final class Piece {
        private final int[] notes = new int[MOST_TYPED];
        private final int[] forces = new int[MOST_TYPED];
        private int count;

        boolean isFull() {
            return count >= MOST_TYPED;
        }

        void append(int note, int force) {
            if (count >= 0 && count < MOST_TYPED) {
                notes[count] = note;
                forces[count] = force;
                count++;
            }
        }

        int countReadyOn(Piano owner) {
            int ready = 0;
            for (int i = 0; i < count && i < MOST_TYPED; i++) {
                Note typed = owner.noteOrNull(notes[i]);
                if (typed != null && owner.isReadyNote(typed)) {
                    ready++;
                }
            }
            return ready;
        }

        void strikeOn(Piano owner, int times) {
            for (int i = 0; i < count && i < MOST_TYPED; i++) {
                Note typed = owner.noteOrNull(notes[i]);
                if (typed != null && typed.isStrung()) {
                    typed.strike(forces[i], times);
                }
            }
        }
    }

    /** The acts, each with the piano as it was ahead of it. */
    private static final class Log {
        private final char[] kinds = new char[MOST_ACTS];
        private final int[] owners = new int[MOST_ACTS];
        private final int[][] rows = new int[MOST_ACTS][];
        private int count;

        boolean isFull() {
            return count >= MOST_ACTS;
        }

        boolean holds(int act) {
            return act >= 0 && act < count && act < MOST_ACTS;
        }

        /** A row is made as its act is first done, and used again by later acts of its number; null if full. */
        int[] nextRow() {
            if (count < 0 || count >= MOST_ACTS) {
                return null;
            }
            int[] row = rows[count];
            if (row == null) {
                row = new int[ROW_CELLS];
                rows[count] = row;
            }
            return row;
        }

        void append(char kind, int owner) {
            if (count >= 0 && count < MOST_ACTS) {
                kinds[count] = kind;
                owners[count] = owner;
                count++;
            }
        }
    }
}
