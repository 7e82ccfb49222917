import java.util.ArrayList;
import java.util.List;
import java.util.function.Function;

/**
 * Objects of which much is there, and all that can be asked of an object. The questions change what they ask
 * about (a tape is read, an image comes back), so each is put to an object of its own; made and asked, an object
 * has had fewer than 512 calls.
 */
final class Scene {
    /** How many there are in busy(). */
    static final int PEOPLE = 7;
    static final int TALKS = 4;

    static final List<Function<HurtSpeech, List<Long>>> QUESTIONS =
            List.of(Scene::ofCongress, Scene::ofSheets, Scene::ofTape, Scene::ofImage);

    private Scene() {
    }

    /**
     * Seven people, four speeches, session 7; an image that is another; sheets 0 and 1 of 16 bits with 5 and 3
     * numbers, 2 of 64 bits with 2, 3 is missing; a text on the tape.
     */
    static HurtSpeech busy() {
        HurtSpeech x = Check.told(
                "delegate;peer has 0 1;clerk pride 9 has 1 2;exile pride 3;lord has 1;scribe has 0 3");
        Check.congress(x, "speech 0 0 40 at 3;speech 4 1 60 at 1;speech 1 2 30;speech 5 0 77 at 5");
        x.set(0, 3, 80);
        x.set(3, 4, 2);
        x.sessions(5);
        x.image();
        x.sessions(2);
        x.delegate(2);
        x.tell(2, 3, 44);
        layThree(x);
        Check.type(x, "peer;speech 6 0 9");
        return x;
    }

    private static void layThree(HurtSpeech x) {
        x.sheet(0, 16, 5);
        for (int i = 0; i < 5; i++) {
            x.write(0, i, 10 + i);
        }
        x.sheet(1, 16, 3);
        x.write(1, 0, 99);
        x.write(1, 2, -3);
        x.sheet(2, 64, 2);
        x.write(2, 1, 1L << 40);
    }

    /** Eight people, eight speeches, a tape of 120 bytes, no image. */
    static HurtSpeech full() {
        HurtSpeech x = Check.told("lord;".repeat(7) + "clerk");
        for (int s = 0; s < 8; s++) {
            x.speech(s, s % 4, 7 - s, 90 + s);
        }
        Check.type(x, " ".repeat(119) + ";");
        return x;
    }

    static List<Long> ofCongress(HurtSpeech x) {
        List<Long> all = new ArrayList<>();
        for (int what = 0; what <= 3; what++) {
            all.add((long) x.count(what));
        }
        for (int what = 0; what <= 4; what++) {
            all.add((long) x.now(what));
        }
        for (int one = 0; one < 8; one++) {
            for (int what = 0; what <= 5; what++) {
                all.add((long) x.of(one, what));
                all.add((long) x.speechOf(one, what));
            }
        }
        return all;
    }

    /** Bits 7, 15 and 40 of what is put last tell of how many bits a sheet is. */
    static List<Long> ofSheets(HurtSpeech x) {
        List<Long> all = new ArrayList<>();
        for (int s = 0; s < 4; s++) {
            for (int i = 0; i <= 40; i++) {
                all.add(x.write(s, i, 1L << 40 | 1 << 15 | 1 << 7));
            }
            all.add(x.write(s, 0, 0));
        }
        return all;
    }

    static List<Long> ofTape(HurtSpeech x) {
        List<Long> all = new ArrayList<>();
        all.add((long) x.count(2));
        all.add((long) x.congress());
        all.addAll(ofCongress(x));
        return all;
    }

    static List<Long> ofImage(HurtSpeech x) {
        List<Long> all = new ArrayList<>();
        all.add((long) x.undo());
        all.addAll(ofCongress(x));
        all.add((long) x.tear());
        return all;
    }
}
