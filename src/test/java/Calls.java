import java.util.List;

/** Calls of the face by their names, with numbers alone: a sign such as 'p' is told by its number. */
final class Calls {
    static final List<String> ACTS =
        List.of("string", "tune", "adjust", "needle", "harden", "file", "play", "perform", "weather");

    private Calls() {
    }

    /** The answer as a text, or the name of the exception that is thrown. */
    static String answer(Hammerline x, String name, int... n) {
        return Checks.answer(() -> call(x, name, n));
    }

    static Object call(Hammerline x, String name, int... n) {
        return switch (name) {
            case "piano" -> x.piano(n[0], n[1], n[2]);
            case "rate" -> x.rate(n[0]);
            case "string" -> x.string(n[0], n[1], n[2], n[3], n[4]);
            case "strings" -> x.strings(n[0], n[1]);
            case "tension" -> x.tension(n[0], n[1]);
            case "load" -> x.load(n[0], n[1]);
            case "borne" -> x.borne(n[0]);
            case "pitch" -> x.pitch(n[0], n[1]);
            case "tune" -> x.tune(n[0], n[1], n[2]);
            case "rateOf" -> x.rateOf(n[0], n[1]);
            case "beats" -> x.beats(n[0], n[1], n[2], n[3], n[4]);
            case "quietest" -> x.quietest(n[0], n[1], n[2], n[3], n[4]);
            case "setting" -> x.setting(n[0], n[1], n[2]);
            case "adjust" -> x.adjust(n[0], n[1], n[2], n[3]);
            case "hardness" -> x.hardness(n[0], n[1]);
            case "felt" -> x.felt(n[0], n[1]);
            case "needle" -> x.needle(n[0], n[1], n[2]);
            case "harden" -> x.harden(n[0], n[1], n[2]);
            case "file" -> x.file(n[0], n[1]);
            case "tone" -> x.tone(n[0], n[1]);
            case "uneven" -> x.uneven(n[0]);
            case "play" -> x.play(n[0], n[1], n[2], n[3]);
            case "blows" -> x.blows(n[0], n[1]);
            case "type" -> x.type(n[0], n[1]);
            case "wipe" -> x.wipe();
            case "perform" -> x.perform(n[0], n[1]);
            case "weather" -> x.weather(n[0], n[1], n[2]);
            case "moisture" -> x.moisture(n[0]);
            case "limit" -> x.limit(n[0], (char) n[1], n[2]);
            case "isWithin" -> x.isWithin(n[0], n[1], (char) n[2]);
            case "worst" -> x.worst(n[0], n[1]);
            case "faults" -> x.faults(n[0]);
            case "fault" -> x.fault(n[0], n[1]);
            case "isReady" -> x.isReady(n[0]);
            case "readiest" -> x.readiest();
            case "blame" -> x.blame(n[0], n[1], (char) n[2]);
            case "acts" -> x.acts();
            case "actAt" -> x.actAt(n[0]);
            case "pianoOf" -> x.pianoOf(n[0]);
            case "back" -> x.back();
            case "minutes" -> x.minutes(n[0]);
            case "checksum" -> x.checksum(n[0]);
            case "readyShare" -> x.readyShare(n[0]);
            case "meanTone" -> x.meanTone(n[0]);
            case "isSound" -> x.isSound();
            default -> throw new Error("there is no call of the name " + name);
        };
    }
}
