import java.util.ArrayList;
import java.util.Arrays;
import java.util.Collections;
import java.util.Comparator;
import java.util.LinkedHashMap;
import java.util.List;
import java.util.Map;
import java.util.Set;
import java.util.TreeSet;

/**
 * The document told a second time, in the plainest way: it keeps what was done and, as an act is taken back, does
 * all the rest anew. An answer is a text, or the name of the exception that is due.
 */
final class Replay {
    private static final String INDEX = "IndexOutOfBoundsException";
    private static final String ARGUMENT = "IllegalArgumentException";
    private static final String STATE = "IllegalStateException";
    private static final String UNSUPPORTED = "UnsupportedOperationException";
    private static final String NONE = "NoSuchElementException";
    private static final String LIMIT_NAMES = "pat";
    private static final List<Integer> OCTAVE =
        List.of(2750, 2914, 3087, 3270, 3465, 3671, 3889, 4120, 4365, 4625, 4900, 5191);

    /** Something done that counts: what it was called, its numbers, and the piece as it was then. */
    private record Deed(String name, int[] numbers, List<int[]> piece) {
        boolean isAct() {
            return !name.equals("piano") && !name.equals("limit");
        }
    }

    private static final class Key {
        long proper;
        int strings;
        long tension;
        long thickness;
        long pitch;
        int hardness = 50;
        int felt = 60;
        long blows;
        final long[] settings = {20, 20, 20, 20, 20};
        final Map<Character, Integer> blamed = new LinkedHashMap<>();

        long load() {
            return 100 * tension / (1570 * thickness * thickness / 10000);
        }

        long tone() {
            return hardness + 4 * strings - (60 - felt) / 5;
        }

        long rate(long more) {
            return 1000 * proper * (17312 + pitch + more) / 17312;
        }

        long distance(char what) {
            if (what == 'a') {
                return Arrays.stream(settings).map(Math::abs).max().getAsLong();
            }
            return strings == 0 ? Long.MAX_VALUE : what == 'p' ? Math.abs(pitch) : Math.abs(tone() - 60);
        }
    }

    private static final class Instrument {
        long plate;
        long minutes;
        long moisture = 4500;
        final List<Key> keys = new ArrayList<>();
        final Map<Character, Integer> limits = new LinkedHashMap<>(Map.of('p', 50, 'a', 10, 't', 15));

        long borne() {
            return keys.stream().mapToLong(k -> k.strings * k.tension).sum();
        }

        boolean within(int note, char what) {
            return keys.get(note).distance(what) <= limits.get(what);
        }

        boolean withinAll(int note) {
            return within(note, 'p') && within(note, 'a') && within(note, 't');
        }

        Set<Integer> faults() {
            Set<Integer> found = new TreeSet<>();
            for (int note = 0; note < keys.size(); note++) {
                for (int w = 0; w < 3; w++) {
                    if (!within(note, LIMIT_NAMES.charAt(w))) {
                        found.add(10 * note + w);
                    }
                }
            }
            return found;
        }
    }

    private final List<Deed> deeds = new ArrayList<>();
    private final List<int[]> piece = new ArrayList<>();
    private List<Instrument> instruments = new ArrayList<>();
    private List<Deed> log = new ArrayList<>();

    private static boolean out(int number, int least, int most) {
        return number < least || number > most;
    }

    private boolean noPiano(int piano) {
        return out(piano, 0, instruments.size() - 1);
    }

    private boolean noNote(int piano, int note) {
        return noPiano(piano) || out(note, 0, instruments.get(piano).keys.size() - 1);
    }

    private boolean isSilent(int piano, int note) {
        return instruments.get(piano).keys.get(note).strings == 0;
    }

    private Key key(int piano, int note) {
        return instruments.get(piano).keys.get(note);
    }

    private static long proper(int number) {
        return (long) OCTAVE.get(number % 12) * (1L << (number / 12));
    }

    private static long tension(long proper, int length, int thickness) {
        long x = length * proper / 1000;
        return x * x * thickness * thickness / 4055000000L;
    }

    // what is done

    private void doNow(Deed deed) {
        deeds.add(deed);
        apply(deed);
    }

    private void apply(Deed deed) {
        int[] n = deed.numbers;
        if (deed.name.equals("piano")) {
            Instrument made = new Instrument();
            made.plate = n[2];
            for (int i = 0; i < n[1]; i++) {
                Key key = new Key();
                key.proper = proper(n[0] + i);
                made.keys.add(key);
            }
            instruments.add(made);
            return;
        }
        Instrument at = instruments.get(n[0]);
        if (deed.name.equals("limit")) {
            at.limits.put((char) n[1], n[2]);
            return;
        }
        Set<Integer> ahead = at.faults();
        act(deed, at);
        Set<Integer> behind = at.faults();
        behind.removeAll(ahead);
        for (int fault : behind) {
            at.keys.get(fault / 10).blamed.put(LIMIT_NAMES.charAt(fault % 10), log.size());
        }
        log.add(deed);
    }

    private static void act(Deed deed, Instrument at) {
        int[] n = deed.numbers;
        Key key = n.length > 1 && n[1] >= 0 && n[1] < at.keys.size() ? at.keys.get(n[1]) : null;
        switch (deed.name) {
            case "string" -> {
                key.tension = tension(key.proper, n[2], n[3]);
                key.thickness = n[3];
                key.strings = n[4];
                key.pitch = -1000;
                at.minutes += 20L * n[4];
            }
            case "tune" -> {
                for (int i = 0; i < at.keys.size(); i++) {
                    at.keys.get(i).pitch += i == n[1] ? n[2] : -(n[2] * key.strings / (30 * Math.abs(i - n[1])));
                }
                at.minutes += 3;
            }
            case "adjust" -> {
                adjust(key.settings, n[2], n[3]);
                at.minutes += 2;
            }
            case "needle" -> {
                for (int i = 0; i < n[2]; i++) {
                    key.hardness -= key.hardness == 0 ? 0 : key.hardness < 20 ? 1 : key.hardness / 10;
                }
                at.minutes += n[2];
            }
            case "harden" -> {
                key.hardness = Math.min(100, key.hardness + n[2]);
                at.minutes += 4;
            }
            case "file" -> {
                key.felt -= 5;
                key.hardness = Math.min(100, key.hardness + 2);
                at.minutes += 6;
            }
            case "play" -> strike(key, n[2], n[3]);
            case "perform" -> deed.piece.stream().filter(t -> t[0] < at.keys.size()).forEach(t -> {
                if (at.keys.get(t[0]).strings > 0) {
                    strike(at.keys.get(t[0]), t[1], n[1]);
                }
            });
            default -> stand(at, n[1], n[2]);
        }
    }

    private static void adjust(long[] settings, int which, int by) {
        settings[which] += by;
        if (which == 0) {
            settings[1] += by * -5 / 10;
            settings[2] += by * -3 / 10;
            settings[3] += by * 2 / 10;
            settings[4] += by * -4 / 10;
        } else if (which == 1) {
            settings[2] += by * 4 / 10;
        } else if (which == 3) {
            settings[2] += by * 3 / 10;
            settings[4] += by / 10;
        }
    }

    private static void strike(Key key, int force, int times) {
        key.hardness = Math.min(100, key.hardness + force * times / 500);
        key.pitch -= force * force * times / 2000;
        key.settings[3] -= force * times / 1000;
        key.blows += times;
        if (key.load() + 3 * force > 100) {
            key.strings--;
        }
    }

    private static void stand(Instrument at, int days, int air) {
        long ahead = at.moisture;
        for (int day = 0; day < days; day++) {
            at.moisture += (100L * air - at.moisture) / 30;
        }
        for (int i = 0; i < at.keys.size(); i++) {
            int third = i * 3 / at.keys.size();
            at.keys.get(i).pitch += (at.moisture - ahead) * (third == 0 ? 3 : third == 1 ? 5 : 4) / 200;
        }
    }

    private String back() {
        if (log.isEmpty()) {
            return NONE;
        }
        String name = log.get(log.size() - 1).name;
        int last = deeds.size() - 1;
        while (!deeds.get(last).isAct()) {
            last--;
        }
        deeds.remove(last);
        instruments = new ArrayList<>();
        log = new ArrayList<>();
        deeds.forEach(this::apply);
        return letter(name);
    }

    private static String letter(String name) {
        return name.equals("perform") ? "c" : name.substring(0, 1);
    }

    private String refusal(String name, int[] n) {
        boolean ofNote = !name.equals("perform") && !name.equals("weather");
        if (ofNote ? noNote(n[0], n[1]) : noPiano(n[0])) {
            return INDEX;
        }
        boolean wrong = switch (name) {
            case "string" -> out(n[2], 50, 2000) || out(n[3], 70, 160) || out(n[4], 1, 3);
            case "tune" -> out(n[2], -500, 500);
            case "adjust" -> out(n[2], 0, 4) || out(n[3], -50, 50);
            case "needle" -> out(n[2], 1, 20);
            case "harden" -> out(n[2], 1, 50);
            case "play" -> out(n[2], 1, 9) || out(n[3], 1, 9999);
            case "perform" -> out(n[1], 1, 999);
            case "weather" -> out(n[1], 1, 365) || out(n[2], 0, 99);
            default -> false;
        };
        if (wrong) {
            return ARGUMENT;
        }
        boolean unsupported = switch (name) {
            case "string" -> wouldBear(n) > instruments.get(n[0]).plate;
            case "tune", "play" -> isSilent(n[0], n[1]);
            case "file" -> key(n[0], n[1]).felt < 5;
            case "perform" -> piece.isEmpty();
            default -> false;
        };
        return unsupported ? UNSUPPORTED : log.size() >= 300 ? STATE : null;
    }

    private long wouldBear(int[] n) {
        long sum = 0;
        for (int i = 0; i < instruments.get(n[0]).keys.size(); i++) {
            Key key = key(n[0], i);
            sum += i == n[1] ? n[4] * tension(key.proper, n[2], n[3]) : key.strings * key.tension;
        }
        return sum;
    }

    /** The answer to an act. */
    String act(String name, int... n) {
        String refused = refusal(name, n);
        if (refused != null) {
            return refused;
        }
        Instrument at = instruments.get(n[0]);
        long good = name.equals("perform")
            ? piece.stream().filter(t -> t[0] < at.keys.size() && at.withinAll(t[0])).count() : 0;
        doNow(new Deed(name, n.clone(), List.copyOf(piece)));
        return switch (name) {
            case "string" -> "" + key(n[0], n[1]).tension;
            case "tune" -> "" + key(n[0], n[1]).pitch;
            case "adjust" -> "" + Arrays.stream(key(n[0], n[1]).settings)
                .filter(s -> Math.abs(s) > at.limits.get('a')).count();
            case "needle", "harden" -> "" + key(n[0], n[1]).hardness;
            case "file" -> "" + key(n[0], n[1]).felt;
            case "play" -> "" + key(n[0], n[1]).strings;
            case "perform" -> "" + good;
            default -> "" + at.moisture;
        };
    }

    /** The answer to a call that is no act. */
    String other(String name, int... n) {
        switch (name) {
            case "piano":
                if (out(n[0], 0, 63) || out(n[1], 1, 24) || out(n[2], 1000, 250000)) {
                    return ARGUMENT;
                }
                if (instruments.size() == 4) {
                    return STATE;
                }
                doNow(new Deed(name, n.clone(), List.of()));
                return "" + (instruments.size() - 1);
            case "limit":
                if (noPiano(n[0])) {
                    return INDEX;
                }
                if (LIMIT_NAMES.indexOf((char) n[1]) < 0 || out(n[2], 0, 999)) {
                    return ARGUMENT;
                }
                int before = instruments.get(n[0]).limits.get((char) n[1]);
                doNow(new Deed(name, n.clone(), List.of()));
                return "" + before;
            case "type":
                if (out(n[0], 0, 23) || out(n[1], 1, 9)) {
                    return ARGUMENT;
                }
                if (piece.size() == 30) {
                    return STATE;
                }
                piece.add(n.clone());
                return "" + piece.size();
            case "wipe":
                int had = piece.size();
                piece.clear();
                return "" + had;
            case "back":
                return back();
            case "rate":
                return out(n[0], 0, 87) ? ARGUMENT : "" + proper(n[0]);
            case "acts":
                return "" + log.size();
            case "actAt":
                return out(n[0], 0, log.size() - 1) ? INDEX : letter(log.get(n[0]).name);
            case "pianoOf":
                return out(n[0], 0, log.size() - 1) ? INDEX : "" + log.get(n[0]).numbers[0];
            case "readiest":
                return instruments.isEmpty() ? NONE : "" + instruments.indexOf(
                    Collections.min(instruments, Comparator.comparingInt(i -> i.faults().size())));
            case "isSound":
                return "true";
            default:
                return name.equals("beats") || name.equals("quietest") ? ofTwo(name, n)
                    : n.length == 1 || name.equals("fault") ? ofPiano(name, n) : ofNote(name, n);
        }
    }

    private String ofTwo(String name, int[] n) {
        if (noNote(n[0], n[1]) || noNote(n[0], n[3])) {
            return INDEX;
        }
        boolean isQuietest = name.equals("quietest");
        if (out(n[2], 1, 8) || out(n[4], 1, 8) || isQuietest && n[1] == n[3]) {
            return ARGUMENT;
        }
        if (isSilent(n[0], n[1]) || isSilent(n[0], n[3])) {
            return NONE;
        }
        Key one = key(n[0], n[1]);
        long other = n[4] * key(n[0], n[3]).rate(0);
        if (!isQuietest) {
            return "" + Math.abs(n[2] * one.rate(0) - other) / 1000;
        }
        List<Integer> tenths = new ArrayList<>();
        for (int by = -500; by <= 500; by++) {
            tenths.add(by);
        }
        return "" + Collections.min(tenths, Comparator
            .<Integer>comparingLong(by -> Math.abs(n[2] * one.rate(by) - other) / 1000)
            .thenComparing(by -> Math.abs(by)).thenComparing(by -> -by));
    }

    private String ofPiano(String name, int[] n) {
        if (noPiano(n[0])) {
            return INDEX;
        }
        Instrument at = instruments.get(n[0]);
        List<Key> strung = at.keys.stream().filter(k -> k.strings > 0).toList();
        switch (name) {
            case "borne":
                return "" + at.borne();
            case "uneven":
                long most = 0;
                for (int i = 1; i < strung.size(); i++) {
                    most = Math.max(most, Math.abs(strung.get(i).tone() - strung.get(i - 1).tone()));
                }
                return "" + most;
            case "moisture":
                return "" + at.moisture;
            case "faults":
                return "" + at.faults().size();
            case "fault":
                return out(n[1], 0, at.faults().size() - 1) ? NONE : "" + new ArrayList<>(at.faults()).get(n[1]);
            case "isReady":
                return "" + at.faults().isEmpty();
            case "minutes":
                return "" + at.minutes;
            case "readyShare":
                int ready = 0;
                for (int i = 0; i < at.keys.size(); i++) {
                    ready += at.withinAll(i) ? 1 : 0;
                }
                return "" + (float) ready / (float) at.keys.size();
            case "meanTone":
                return strung.isEmpty() ? NONE
                    : "" + (double) strung.stream().mapToLong(Key::tone).sum() / (double) strung.size();
            default:
                long sum = 7;
                for (Key k : at.keys) {
                    sum = 31 * sum + k.strings + (k.strings > 0 ? k.pitch : 0) + k.hardness + k.felt
                        + Arrays.stream(k.settings).sum();
                }
                return "" + sum;
        }
    }

    private String ofNote(String name, int[] n) {
        if (noNote(n[0], n[1])) {
            return INDEX;
        }
        Key key = key(n[0], n[1]);
        boolean silent = key.strings == 0;
        switch (name) {
            case "strings":
                return "" + key.strings;
            case "tension":
                return silent ? NONE : "" + key.tension;
            case "load":
                return silent ? NONE : "" + key.load();
            case "pitch":
                return silent ? NONE : "" + key.pitch;
            case "rateOf":
                return silent ? NONE : "" + key.rate(0);
            case "tone":
                return silent ? NONE : "" + key.tone();
            case "hardness":
                return "" + key.hardness;
            case "felt":
                return "" + key.felt;
            case "blows":
                return "" + key.blows;
            case "setting":
                return out(n[2], 0, 4) ? ARGUMENT : "" + key.settings[n[2]];
            case "worst":
                int worst = 0;
                for (int i = 1; i < 5; i++) {
                    worst = Math.abs(key.settings[i]) > Math.abs(key.settings[worst]) ? i : worst;
                }
                return "" + worst;
            default:
                if (LIMIT_NAMES.indexOf((char) n[2]) < 0) {
                    return ARGUMENT;
                }
                boolean within = instruments.get(n[0]).within(n[1], (char) n[2]);
                Integer blamed = key.blamed.get((char) n[2]);
                return name.equals("isWithin") ? "" + within : within || blamed == null ? NONE : "" + blamed;
        }
    }
}
