/** Promises 35 to 39: image, undo, tear, count, status. */
public final class ImagesTest {
    private static final Check check = new Check();

    public static void main(String[] args) {
        imageAndUndo();
        whatAnImageHasNot();
        tear();
        count();
        status();
        check.end();
    }

    private static void imageAndUndo() {
        check.topic("promises 35 and 36");
        HurtSpeech x = new HurtSpeech();
        check.due("undo()", x.undo(), Check.NONE);
        check.due("image()", x.image(), 1);
        Check.congress(x, "exile pride 7 has 1 2;clerk;speech 1 2 50 at 0");
        check.due("undo() to nobody", x.undo(), 0);
        check.due("count(0)", x.count(0), 0);
        check.due("count(1)", x.count(1), 0);
        Check.congress(x, "exile pride 7 has 1 2;clerk;speech 1 2 50 at 0");
        x.set(0, 3, 30);
        x.set(0, 4, 9);
        x.sessions(5);
        int[][] was = {all(x), null};
        check.due("image()", x.image(), 1);
        for (int round = 0; round < 2; round++) {
            x.sessions(50);
            x.turn(0, 1);
            x.set(0, 1, 1);
            x.set(0, 2, 1);
            x.tell(0, 0, 0);
            x.tell(0, 1, 1);
            x.tell(0, 2, -1);
            x.delegate(4);
            x.speech(2, 0, 0, 9);
            check.due("undo(), which stays", x.undo(), 2);
            was[1] = all(x);
            for (int i = 0; i < was[0].length; i++) {
                check.due("the " + i + "th of all", was[1][i], was[0][i]);
            }
        }
        x.delegate(5);
        check.due("image() of three", x.image(), 1);
        x.delegate(5);
        check.due("undo() to the latest", x.undo(), 3);
        check.due("of(2, 0)", x.of(2, 0), 5);
    }

    private static int[] all(HurtSpeech x) {
        int[] answers = new int[20];
        for (int what = 0; what < 5; what++) {
            answers[what] = x.of(0, what);
            answers[5 + what] = x.of(1, what);
            answers[10 + what] = x.now(what);
        }
        for (int what = 0; what < 4; what++) {
            answers[15 + what] = x.speechOf(0, what);
        }
        answers[19] = 10 * x.count(0) + x.count(1);
        return answers;
    }

    private static void whatAnImageHasNot() {
        check.topic("promise 36, what it leaves");
        HurtSpeech x = Check.told("delegate");
        Check.type(x, "peer");
        x.sheet(0, 8, 2);
        x.image();
        Check.type(x, ";lord");
        x.write(0, 1, 7);
        x.sheet(1, 8, 1);
        x.of(9, 9);
        check.due("undo()", x.undo(), 1);
        check.due("count(2)", x.count(2), 9);
        check.due("write(0, 1, 0)", x.write(0, 1, 0), 7);
        check.due("write(1, 0, 0)", x.write(1, 0, 0), 0);
        check.due("status(0)", x.status(0), 1);
        check.due("congress()", x.congress(), 2);
        check.due("undo()", x.undo(), 1);
        check.due("count(2)", x.count(2), 0);
    }

    private static void tear() {
        check.topic("promise 37");
        HurtSpeech x = Check.told("delegate");
        check.due("tear()", x.tear(), 0);
        x.image();
        x.image();
        check.due("tear()", x.tear(), 1);
        check.due("tear()", x.tear(), 0);
        x.delegate(0);
        check.due("undo()", x.undo(), Check.NONE);
        check.due("count(0)", x.count(0), 2);
        x.image();
        check.due("undo()", x.undo(), 2);
        check.due("tear() after undo()", x.tear(), 1);
    }

    private static void count() {
        check.topic("promise 38");
        HurtSpeech x = Check.told("delegate;peer;lord;speech 0 0 5;speech 1 1 5");
        Check.type(x, "12345");
        x.set(0, 4, 999);
        x.set(2, 4, 2);
        int[] want = {3, 2, 5, 1001};
        for (int what = 0; what < 4; what++) {
            check.due("count(" + what + ")", x.count(what), want[what]);
        }
        check.due("count(-1)", x.count(-1), Check.BEYOND);
        check.due("count(4)", x.count(4), Check.BEYOND);
        for (int far : Check.FAR) {
            check.due("count(" + far + ")", x.count(far), Check.BEYOND);
        }
    }

    private static void status() {
        check.topic("promise 39");
        HurtSpeech x = Check.told("delegate");
        for (int which = -1; which <= 6; which++) {
            check.due("status(" + which + ")", x.status(which), 0);
        }
        x.image();
        x.delegate(6);
        x.delegate(-1);
        Check.type(x, " ".repeat(120));
        x.feed(0, 1);
        x.as(0, 5);
        x.as(0, 4);
        x.as(0, 3);
        x.weeps(0);
        x.write(0, 0, 0);
        x.sheet(0, 8, -1);
        x.sheet(0, 8, -2);
        x.undo();
        x.congress();
        int[] want = {2, 1, 3, 1, 0, 1, 2};
        for (int which = 0; which <= 6; which++) {
            check.due("status(" + which + ")", x.status(which), want[which]);
        }
        check.due("status(-1)", x.status(-1), 10);
        check.due("status(7)", x.status(7), Check.BEYOND);
        check.due("status(0), counted from then on", x.status(0), 3);
        check.due("status(-2)", x.status(-2), Check.BEYOND);
        check.due("status(0)", x.status(0), 4);
        check.due("status(-1)", x.status(-1), 12);
        for (int far : Check.FAR) {
            check.due("status(" + far + ")", x.status(far), Check.BEYOND);
        }
        check.due("status(-1)", x.status(-1), 12 + Check.FAR.length);
    }
}
