/** Promises 7 to 12: speech, speechOf, tell, loses, renders, hurts. */
public final class SpeechesTest {
    private static final Check check = new Check();

    public static void main(String[] args) {
        speech();
        speechOf();
        interpreters();
        tell();
        loses();
        renders();
        hurts();
        check.end();
    }

    private static HurtSpeech ofAllKinds() {
        return Check.told("delegate;peer;clerk;exile;lord;scribe;delegate");
    }

    private static void speech() {
        check.topic("promise 7");
        HurtSpeech x = new HurtSpeech();
        check.due("speech(0, 0, -1, 0)", x.speech(0, 0, -1, 0), Check.BEYOND);
        x.delegate(0);
        x.delegate(0);
        check.due("speech(2, 0, 0, 0)", x.speech(2, 0, 0, 0), Check.BEYOND);
        check.due("speech(-1, 0, 0, 0)", x.speech(-1, 0, 0, 0), Check.BEYOND);
        check.due("speech(0, 4, 0, 0)", x.speech(0, 4, 0, 0), Check.BEYOND);
        check.due("speech(0, -1, 0, 0)", x.speech(0, -1, 0, 0), Check.BEYOND);
        check.due("speech(0, 0, 2, 0)", x.speech(0, 0, 2, 0), Check.BEYOND);
        check.due("speech(0, 0, -2, 0)", x.speech(0, 0, -2, 0), Check.BEYOND);
        check.due("speech(0, 0, 0, 100)", x.speech(0, 0, 0, 100), Check.BEYOND);
        check.due("speech(0, 0, 0, -1)", x.speech(0, 0, 0, -1), Check.BEYOND);
        for (int far : Check.FAR) {
            check.due("speech(" + far + ", 0, 0, 0)", x.speech(far, 0, 0, 0), Check.BEYOND);
            check.due("speech(0, " + far + ", 0, 0)", x.speech(0, far, 0, 0), Check.BEYOND);
            check.due("speech(0, 0, " + far + ", 0)", x.speech(0, 0, far, 0), Check.BEYOND);
            check.due("speech(0, 0, 0, " + far + ")", x.speech(0, 0, 0, far), Check.BEYOND);
        }
        check.due("count(1)", x.count(1), 0);
        check.due("speech(1, 3, -1, 99)", x.speech(1, 3, -1, 99), 0);
        check.due("speech(0, 0, 0, 0)", x.speech(0, 0, 0, 0), 1);
        for (int s = 2; s < 8; s++) {
            check.due("speech(0, 0, 1, 1)", x.speech(0, 0, 1, 1), s);
        }
        check.due("speech(0, 0, 1, 1)", x.speech(0, 0, 1, 1), Check.FULL);
        check.due("speech(2, 0, 1, 1), when it is full", x.speech(2, 0, 1, 1), Check.BEYOND);
        check.due("count(1)", x.count(1), 8);
    }

    private static void speechOf() {
        check.topic("promise 8");
        HurtSpeech x = Check.told("delegate;clerk has 2;delegate;speech 2 2 77 at 1;speech 1 0 5");
        int[][] want = {{2, 2, 1, 77, 1, 77}, {1, 0, -1, 5, -1, 0}};
        for (int s = 0; s < 2; s++) {
            for (int what = 0; what <= 5; what++) {
                check.due("speechOf(" + s + ", " + what + ")", x.speechOf(s, what), want[s][what]);
            }
        }
        check.due("speechOf(2, 0)", x.speechOf(2, 0), Check.BEYOND);
        check.due("speechOf(-1, 0)", x.speechOf(-1, 0), Check.BEYOND);
        check.due("speechOf(0, -1)", x.speechOf(0, -1), Check.BEYOND);
        check.due("speechOf(0, 6)", x.speechOf(0, 6), Check.BEYOND);
        for (int far : Check.FAR) {
            check.due("speechOf(" + far + ", 0)", x.speechOf(far, 0), Check.BEYOND);
            check.due("speechOf(0, " + far + ")", x.speechOf(0, far), Check.BEYOND);
        }
    }

    private static void interpreters() {
        check.topic("promise 8, the interpreter");
        HurtSpeech x = Check.told("delegate;delegate;delegate;delegate;speech 1 0 50 at 1");
        check.due("of several the least", x.speechOf(0, 4), 0);
        x.tell(0, 0, 0);
        check.due("but him whose it is", x.speechOf(0, 4), 1);
        x.tell(0, 2, 3);
        check.due("who loses most", x.speechOf(0, 4), 3);
        x.set(3, 2, 14);
        check.due("who has the tongue", x.speechOf(0, 4), 1);
        x.set(1, 2, 0);
        x.set(2, 2, 2);
        check.due("nobody has it", x.speechOf(0, 4), -1);
        check.due("and it comes over with nothing", x.speechOf(0, 5), 0);
        x.tell(0, 1, 1);
        check.due("another tongue", x.speechOf(0, 4), 3);
        x.tell(0, 3, 0);
        check.due("nobody loses anything", x.speechOf(0, 4), -1);
        x.tell(0, 3, 4);
        x.tell(0, 2, 1);
        check.due("a fifth of 4 is nothing", x.speechOf(0, 4), -1);
        x.turn(2, 3);
        check.due("but to an exile", x.speechOf(0, 4), 2);
        x.set(2, 1, 0);
        check.due("without pride it is", x.speechOf(0, 4), -1);

        HurtSpeech y = Check.told("delegate;exile;speech 0 0 99 at 1");
        y.set(1, 1, 20);
        check.due("renders 99 at most", y.speechOf(0, 5), 99);
        check.due("hurts(0)", y.hurts(0), 2);
    }

    private static void tell() {
        check.topic("promise 9");
        HurtSpeech x = Check.told("delegate;clerk;peer;speech 2 2 77 at 1;speech 0 0 1");
        check.due("tell(0, 0, 1)", x.tell(0, 0, 1), 2);
        check.due("tell(0, 1, 3)", x.tell(0, 1, 3), 2);
        check.due("tell(0, 2, -1)", x.tell(0, 2, -1), 1);
        check.due("tell(0, 3, 99)", x.tell(0, 3, 99), 77);
        int[] want = {1, 3, -1, 99};
        for (int what = 0; what < 4; what++) {
            check.due("speechOf(0, " + what + ")", x.speechOf(0, what), want[what]);
        }
        check.due("tell(0, 2, 2)", x.tell(0, 2, 2), -1);
        check.due("tell(0, 0, 0)", x.tell(0, 0, 0), 1);
        check.due("tell(0, 1, 0)", x.tell(0, 1, 0), 3);
        check.due("tell(0, 3, 0)", x.tell(0, 3, 0), 99);
        int[] above = {3, 4, 3, 100};
        int[] below = {-1, -1, -2, -1};
        for (int what = 0; what < 4; what++) {
            check.due("tell(0, " + what + ", above)", x.tell(0, what, above[what]), Check.BEYOND);
            check.due("tell(0, " + what + ", below)", x.tell(0, what, below[what]), Check.BEYOND);
            for (int far : Check.FAR) {
                check.due("tell(0, " + what + ", " + far + ")", x.tell(0, what, far), Check.BEYOND);
                check.due("tell(" + far + ", " + what + ", 0)", x.tell(far, what, 0), Check.BEYOND);
                check.due("tell(0, " + far + ", 0)", x.tell(0, far, 0), Check.BEYOND);
            }
        }
        check.due("tell(0, 4, 0)", x.tell(0, 4, 0), Check.BEYOND);
        check.due("tell(0, -1, 0)", x.tell(0, -1, 0), Check.BEYOND);
        check.due("tell(2, 3, 0)", x.tell(2, 3, 0), Check.BEYOND);
        check.due("tell(-1, 3, 0)", x.tell(-1, 3, 0), Check.BEYOND);
        check.due("speechOf(1, 3)", x.speechOf(1, 3), 1);
        check.due("speechOf(0, 2)", x.speechOf(0, 2), 2);
    }

    private static void loss(HurtSpeech x, int tongue, int at, int force, int... want) {
        x.tell(0, 1, tongue);
        x.tell(0, 2, at);
        x.tell(0, 3, force);
        for (int d = 0; d < want.length; d++) {
            check.due("loses(" + d + ", 0) in " + tongue + " at " + at + " force " + force, x.loses(d, 0), want[d]);
        }
    }

    private static void loses() {
        check.topic("promise 10");
        HurtSpeech x = ofAllKinds();
        x.speech(6, 0, 0, 0);
        loss(x, 1, 0, 49, 49, 9, 4, 14, 7, 5, 0);
        loss(x, 0, 0, 49, 49, 0, 4, 14, 0, 5, 0);
        loss(x, 2, 1, 49, 9, 0, 4, 14, 0, 5, 0);
        loss(x, 1, 1, 49, 9, 49, 4, 14, 7, 5, 0);
        loss(x, 3, 2, 49, 9, 0, 24, 14, 0, 5, 0);
        loss(x, 0, 3, 49, 9, 0, 4, 54, 0, 5, 0);
        loss(x, 1, 4, 49, 9, 9, 4, 14, 47, 5, 0);
        loss(x, 1, 5, 49, 9, 9, 4, 14, 7, 25, 0);
        loss(x, 1, 6, 49, 9, 9, 4, 14, 7, 5, 0);
        loss(x, 1, -1, 99, 0, 0, 0, 0, 0, 0, 0);
        loss(x, 1, 0, 9, 9, 1, 0, 6, 0, 0, 0);
        loss(x, 1, 5, 9, 1, 1, 0, 6, 0, 4, 0);
        loss(x, 1, 5, 10, 2, 2, 1, 7, 0, 6, 0);
        loss(x, 1, 0, 4, 4, 0, 0, 5, 0, 0, 0);
        loss(x, 1, 3, 0, 0, 0, 0, 0, 0, 0, 0);
        x.set(3, 1, 20);
        x.set(4, 1, 19);
        loss(x, 1, 3, 99, 19, 19, 9, 119, 10, 10, 0);
        loss(x, 0, 4, 99, 19, 0, 9, 39, 0, 10, 0);
        check.due("loses(7, 0)", x.loses(7, 0), Check.BEYOND);
        check.due("loses(-1, 0)", x.loses(-1, 0), Check.BEYOND);
        check.due("loses(0, 1)", x.loses(0, 1), Check.BEYOND);
        check.due("loses(0, -1)", x.loses(0, -1), Check.BEYOND);
        for (int far : Check.FAR) {
            check.due("loses(" + far + ", 0)", x.loses(far, 0), Check.BEYOND);
            check.due("loses(0, " + far + ")", x.loses(0, far), Check.BEYOND);
        }
    }

    private static void rendered(HurtSpeech x, int pride, int force, int... want) {
        x.tell(0, 3, force);
        for (int d = 0; d < want.length; d++) {
            x.set(d, 1, pride);
            check.due("renders(" + d + ", 0) pride " + pride + " force " + force, x.renders(d, 0), want[d]);
        }
    }

    private static void renders() {
        check.topic("promise 11");
        HurtSpeech x = ofAllKinds();
        x.speech(0, 2, -1, 0);
        rendered(x, 5, 49, 44, 24, 49, 88, 25, 48);
        rendered(x, 20, 99, 79, 49, 99, 99, 54, 98);
        rendered(x, 19, 99, 80, 49, 99, 99, 53, 98);
        rendered(x, 0, 99, 99, 49, 99, 99, 49, 98);
        rendered(x, 0, 49, 49, 24, 49, 98, 24, 48);
        rendered(x, 0, 50, 50, 25, 50, 99, 25, 49);
        rendered(x, 7, 6, 0, 3, 6, 0, 4, 5);
        rendered(x, 6, 7, 1, 3, 7, 2, 4, 6);
        rendered(x, 20, 0, 0, 0, 0, 0, 5, 0);
        check.due("renders(7, 0)", x.renders(7, 0), Check.BEYOND);
        check.due("renders(-1, 0)", x.renders(-1, 0), Check.BEYOND);
        check.due("renders(0, 1)", x.renders(0, 1), Check.BEYOND);
        check.due("renders(0, -1)", x.renders(0, -1), Check.BEYOND);
        for (int far : Check.FAR) {
            check.due("renders(" + far + ", 0)", x.renders(far, 0), Check.BEYOND);
            check.due("renders(0, " + far + ")", x.renders(0, far), Check.BEYOND);
        }
    }

    private static void hurts() {
        check.topic("promise 12");
        HurtSpeech x = ofAllKinds();
        x.speech(6, 0, 0, 49);
        check.due("hurts(0), by a delegate with 44", x.hurts(0), 1 + 4 + 8 + 32);
        x.tell(0, 3, 12);
        check.due("hurts(0), by a delegate with 7", x.hurts(0), 1 + 8);
        x.tell(0, 3, 5);
        check.due("hurts(0), by an exile with 0", x.hurts(0), 0);
        x.tell(0, 2, -1);
        check.due("hurts(0), at nobody", x.hurts(0), 0);
        x.tell(0, 2, 4);
        x.tell(0, 3, 99);
        x.tell(0, 1, 1);
        check.due("hurts(0), without an interpreter", x.hurts(0), 0);
        x.set(4, 2, 2);
        check.due("hurts(0), by a lord with 50", x.hurts(0), 63);
        check.due("hurts(1)", x.hurts(1), Check.BEYOND);
        check.due("hurts(-1)", x.hurts(-1), Check.BEYOND);
        for (int far : Check.FAR) {
            check.due("hurts(" + far + ")", x.hurts(far), Check.BEYOND);
        }
    }
}
