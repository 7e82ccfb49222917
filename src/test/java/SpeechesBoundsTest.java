import java.util.function.Supplier;

/** Promises 7 to 12: each boundary that a sentence of them names, on both sides. */
public final class SpeechesBoundsTest {
    private static final Bounds check = new Bounds();
    private static final int LAST = Scene.PEOPLE - 1;
    private static final int LAST_TALK = Scene.TALKS - 1;

    public static void main(String[] args) {
        speechTaken();
        speechRefused(Scene::busy, LAST);
        speechFull();
        speechOf();
        speechOfWithNone();
        tellOfEach();
        tellOfWhatIsNot();
        losesAndRenders();
        hurts();
        hurtsOrNot();
        check.end();
    }

    private static int[] told(HurtSpeech x, int speech) {
        int[] all = new int[4];
        for (int what = 0; what < 4; what++) {
            all[what] = x.speechOf(speech, what);
        }
        return all;
    }

    private static void isTaken(int by, int tongue, int at, int force) {
        HurtSpeech x = Scene.busy();
        String call = "speech(" + by + ", " + tongue + ", " + at + ", " + force + ")";
        check.due(call, x.speech(by, tongue, at, force), Scene.TALKS);
        check.holds(call + " is as it was told",
                java.util.Arrays.equals(told(x, Scene.TALKS), new int[] {by, tongue, at, force}));
        check.due(call + ", then count(1)", x.count(1), Scene.TALKS + 1);
    }

    private static void speechTaken() {
        check.topic("7: A new speech BY one, IN a TONGUE, AIMED at one (-1: nobody), of a FORCE: its number.");
        isTaken(0, 0, -1, 0);
        isTaken(LAST, 3, LAST, 99);
        isTaken(0, 3, 0, 99);
        isTaken(LAST, 0, -1, 99);
        isTaken(LAST, 3, 0, 0);
    }

    private static void speechRefused(Supplier<HurtSpeech> scene, int last) {
        check.topic("7: BEYOND.");
        check.beyond(scene, "speech(?, 0, 0, 0)", 0, last, (x, v) -> x.speech(v, 0, 0, 0));
        check.beyond(scene, "speech(0, ?, 0, 0)", 0, 3, (x, v) -> x.speech(0, v, 0, 0));
        check.beyond(scene, "speech(0, 0, ?, 0)", -1, last, (x, v) -> x.speech(0, 0, v, 0));
        check.beyond(scene, "speech(0, 0, 0, ?)", 0, 99, (x, v) -> x.speech(0, 0, 0, v));
        check.beyond(scene, "speech(?, 3, -1, 99)", 0, last, (x, v) -> x.speech(v, 3, -1, 99));
    }

    private static void speechFull() {
        check.topic("7: FULL. SPEECHES (at most 8)");
        HurtSpeech x = Check.told("delegate");
        for (int s = 0; s < 8; s++) {
            check.due("speech(0, 0, -1, 5), the " + s + "th", x.speech(0, 0, -1, 5), s);
        }
        check.due("speech(0, 0, -1, 5), the ninth", x.speech(0, 0, -1, 5), Check.FULL);
        check.refused(Scene::full, "speech(0, 0, -1, 0)", Check.FULL, y -> y.speech(0, 0, -1, 0));
        check.refused(Scene::full, "speech(7, 3, 7, 99)", Check.FULL, y -> y.speech(7, 3, 7, 99));
        check.topic("7: BEYOND, and FULL behind it");
        speechRefused(Scene::full, 7);
    }

    private static void speechOf() {
        check.topic("8: BEYOND.");
        check.tells(Scene::busy, "speechOf(0, 0)", 0, x -> x.speechOf(0, 0));
        check.tells(Scene::busy, "speechOf(3, 0)", 5, x -> x.speechOf(LAST_TALK, 0));
        check.tells(Scene::busy, "speechOf(2, 5)", 0, x -> x.speechOf(2, 5));
        check.tells(Scene::full, "speechOf(7, 3)", 97, x -> x.speechOf(7, 3));
        check.beyond(Scene::busy, "speechOf(?, 0)", 0, LAST_TALK, (x, v) -> x.speechOf(v, 0));
        check.beyond(Scene::busy, "speechOf(?, 4)", 0, LAST_TALK, (x, v) -> x.speechOf(v, 4));
        check.beyond(Scene::busy, "speechOf(?, 5)", 0, LAST_TALK, (x, v) -> x.speechOf(v, 5));
        check.beyond(Scene::full, "speechOf(?, 3)", 0, 7, (x, v) -> x.speechOf(v, 3));
        check.beyond(Scene::busy, "speechOf(0, ?)", 0, 5, (x, v) -> x.speechOf(0, v));
    }

    /** A clerk who loses 1 by a speech of 2, and nothing by one of 1. */
    private static void speechOfWithNone() {
        check.topic("8: 2 AIMED (-1), 4 THE INTERPRETER (-1), 5 with what FORCE it comes over (0 with none).");
        HurtSpeech x = Check.told("delegate;clerk;speech 0 0 2 at 1");
        int[] some = {0, 0, 1, 2, 1, 2};
        int[] none = {0, 0, 1, 1, -1, 0};
        int[] nobody = {0, 0, -1, 99, -1, 0};
        for (int what = 0; what <= 5; what++) {
            check.due("speechOf(0, " + what + ")", x.speechOf(0, what), some[what]);
        }
        x.tell(0, 3, 1);
        for (int what = 0; what <= 5; what++) {
            check.due("speechOf(0, " + what + "), by which none loses", x.speechOf(0, what), none[what]);
        }
        x.tell(0, 3, 99);
        x.tell(0, 2, -1);
        for (int what = 0; what <= 5; what++) {
            check.due("speechOf(0, " + what + "), at nobody", x.speechOf(0, what), nobody[what]);
        }
        HurtSpeech y = Check.told("delegate;delegate pride 9;speech 0 0 9 at 1");
        check.due("speechOf(0, 4), who renders nothing", y.speechOf(0, 4), 1);
        check.due("speechOf(0, 5), by him", y.speechOf(0, 5), 0);
        y.tell(0, 3, 10);
        check.due("speechOf(0, 5), by him", y.speechOf(0, 5), 1);
    }

    private static void tellOfEach() {
        check.topic("9: BY, TONGUE, AIMED (-1, too), FORCE of a speech becomes v: what it was. BEYOND.");
        int[] was = {1, 2, -1, 44};
        int[] least = {0, 0, -1, 0};
        int[] most = {LAST, 3, LAST, 99};
        for (int what = 0; what < 4; what++) {
            int w = what;
            int low = least[what];
            int high = most[what];
            String call = "tell(2, " + what + ", ";
            check.takes(Scene::busy, call + low + ")", was[w], x -> x.tell(2, w, low));
            check.takes(Scene::busy, call + high + ")", was[w], x -> x.tell(2, w, high));
            check.takes(Scene::busy, call + low + ") then", low, x -> 0 * x.tell(2, w, low) + x.speechOf(2, w));
            check.takes(Scene::busy, call + high + ") then", high, x -> 0 * x.tell(2, w, high) + x.speechOf(2, w));
            check.tells(Scene::busy, call + was[w] + "), what it is", was[w], x -> x.tell(2, w, was[w]));
            check.beyond(Scene::busy, call + "?)", low, high, (x, v) -> x.tell(2, w, v));
        }
    }

    private static void tellOfWhatIsNot() {
        check.topic("9: BEYOND: no such what, no such speech");
        check.beyond(Scene::busy, "tell(2, ?, 0)", 0, 3, (x, v) -> x.tell(2, v, 0));
        check.beyond(Scene::busy, "tell(2, ?, -1)", 2, 2, (x, v) -> x.tell(2, v, -1));
        check.beyond(Scene::busy, "tell(?, 0, 0)", 0, LAST_TALK, (x, v) -> x.tell(v, 0, 0));
        check.beyond(Scene::busy, "tell(?, 2, -1)", 0, LAST_TALK, (x, v) -> x.tell(v, 2, -1));
        check.beyond(Scene::full, "tell(?, 3, 99)", 0, 7, (x, v) -> x.tell(v, 3, 99));
        check.takes(Scene::full, "tell(7, 0, 7)", 7, x -> x.tell(7, 0, 7));
        check.takes(Scene::full, "tell(7, 2, 7)", 0, x -> x.tell(7, 2, 7));
        check.beyond(Scene::full, "tell(7, 0, ?)", 0, 7, (x, v) -> x.tell(7, 0, v));
        check.beyond(Scene::full, "tell(7, 2, ?)", -1, 7, (x, v) -> x.tell(7, 2, v));
    }

    private static void losesAndRenders() {
        check.topic("10: What one LOSES by a speech, with its FORCE. BEYOND.");
        check.tells(Scene::busy, "loses(0, 0)", 0, x -> x.loses(0, 0));
        check.tells(Scene::busy, "loses(6, 3), of which 38 is left", 3, x -> x.loses(LAST, LAST_TALK));
        check.tells(Scene::full, "loses(7, 0)", 45, x -> x.loses(7, 0));
        check.beyond(Scene::busy, "loses(?, 0)", 0, LAST, (x, v) -> x.loses(v, 0));
        check.beyond(Scene::busy, "loses(0, ?)", 0, LAST_TALK, (x, v) -> x.loses(0, v));
        check.beyond(Scene::full, "loses(?, 7)", 0, 7, (x, v) -> x.loses(v, 7));
        check.beyond(Scene::full, "loses(7, ?)", 0, 7, (x, v) -> x.loses(7, v));
        check.topic("11: With what FORCE a speech would come over by one. BEYOND.");
        check.tells(Scene::busy, "renders(6, 2)", 44, x -> x.renders(LAST, 2));
        check.tells(Scene::busy, "renders(0, 2)", 39, x -> x.renders(0, 2));
        check.tells(Scene::full, "renders(7, 7)", 97, x -> x.renders(7, 7));
        check.beyond(Scene::busy, "renders(?, 0)", 0, LAST, (x, v) -> x.renders(v, 0));
        check.beyond(Scene::busy, "renders(0, ?)", 0, LAST_TALK, (x, v) -> x.renders(0, v));
        check.beyond(Scene::full, "renders(?, 7)", 0, 7, (x, v) -> x.renders(v, 7));
        check.beyond(Scene::full, "renders(7, ?)", 0, 7, (x, v) -> x.renders(7, v));
    }

    private static void hurts() {
        check.topic("12: BEYOND.");
        check.tells(Scene::busy, "hurts(2)", 0, x -> x.hurts(2));
        check.takes(Scene::full, "hurts(7)", 0, x -> x.hurts(7));
        check.beyond(Scene::busy, "hurts(?)", 0, LAST_TALK, HurtSpeech::hurts);
        check.beyond(Scene::full, "hurts(?)", 0, 7, HurtSpeech::hurts);
    }

    /** The speech comes over by 1 with FORCE less 5; 2, an onlooker, is hurt from what comes over as 5 on. */
    private static void hurtsOrNot() {
        check.topic("12: Whom a speech hurts as it comes over (LOSES above 0), as a set.");
        HurtSpeech x = Check.told("delegate;delegate;delegate;clerk;speech 0 0 5 at 1");
        check.due("hurts(0), as 0", x.hurts(0), 0);
        x.tell(0, 3, 6);
        check.due("hurts(0), as 1", x.hurts(0), 2);
        x.tell(0, 3, 9);
        check.due("hurts(0), as 4", x.hurts(0), 2);
        x.tell(0, 3, 10);
        check.due("hurts(0), as 5", x.hurts(0), 6);
        x.tell(0, 3, 14);
        check.due("hurts(0), as 9", x.hurts(0), 6);
        x.tell(0, 3, 15);
        check.due("hurts(0), as 10", x.hurts(0), 14);
        HurtSpeech y = Scene.full();
        for (int d = 0; d < 8; d++) {
            y.turn(d, 0);
        }
        y.tell(0, 2, 0);
        check.due("hurts(0), all but him whose it is", y.hurts(0), 254);
        y.tell(0, 0, 7);
        check.due("hurts(0), all but the last", y.hurts(0), 127);
    }
}
