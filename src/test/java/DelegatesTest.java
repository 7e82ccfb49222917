/** Promises 1 to 6: a new object, delegate, of, set, turn, as. */
public final class DelegatesTest {
    private static final Check check = new Check();

    public static void main(String[] args) {
        aNewObject();
        delegate();
        ofAFreshOne();
        ofWeeping();
        set();
        turn();
        as();
        check.end();
    }

    private static void aNewObject() {
        check.topic("promise 1");
        HurtSpeech x = new HurtSpeech();
        check.due("status(-1)", x.status(-1), 0);
        for (int what = 0; what <= 3; what++) {
            check.due("count(" + what + ")", x.count(what), 0);
        }
        check.due("now(0)", x.now(0), 0);
        check.due("now(1)", x.now(1), -1);
        check.due("now(2)", x.now(2), 0);
        check.due("now(3)", x.now(3), 0);
        check.due("now(4)", x.now(4), 0);
        check.due("of(0, 0)", x.of(0, 0), Check.BEYOND);
        check.due("speechOf(0, 0)", x.speechOf(0, 0), Check.BEYOND);
        check.due("tear()", x.tear(), 0);
        check.due("undo()", x.undo(), Check.NONE);
        check.due("wipe()", x.wipe(), 0);
        for (int s = 0; s < 4; s++) {
            check.due("write(" + s + ", 0, 1)", x.write(s, 0, 1), Check.MISSING);
        }
        HurtSpeech other = new HurtSpeech();
        x.delegate(0);
        check.due("count(0) of another object", other.count(0), 0);
    }

    private static void delegate() {
        check.topic("promise 2");
        HurtSpeech x = new HurtSpeech();
        check.due("delegate(-1)", x.delegate(-1), Check.BEYOND);
        check.due("delegate(6)", x.delegate(6), Check.BEYOND);
        for (int far : Check.FAR) {
            check.due("delegate(" + far + ")", x.delegate(far), Check.BEYOND);
        }
        check.due("count(0)", x.count(0), 0);
        for (int d = 0; d < 8; d++) {
            check.due("delegate(" + d % 6 + ")", x.delegate(d % 6), d);
        }
        check.due("delegate(0)", x.delegate(0), Check.FULL);
        check.due("delegate(6), when it is full", x.delegate(6), Check.BEYOND);
        check.due("count(0)", x.count(0), 8);
        for (int d = 0; d < 8; d++) {
            check.due("of(" + d + ", 0)", x.of(d, 0), d % 6);
        }
    }

    private static void ofAFreshOne() {
        check.topic("promise 3");
        HurtSpeech x = new HurtSpeech();
        x.delegate(4);
        int[] fresh = {4, 5, 1, 0, 0, 0};
        for (int what = 0; what <= 5; what++) {
            check.due("of(0, " + what + ")", x.of(0, what), fresh[what]);
        }
        check.due("of(0, -1)", x.of(0, -1), Check.BEYOND);
        check.due("of(0, 6)", x.of(0, 6), Check.BEYOND);
        check.due("of(-1, 0)", x.of(-1, 0), Check.BEYOND);
        check.due("of(1, 0)", x.of(1, 0), Check.BEYOND);
        for (int far : Check.FAR) {
            check.due("of(" + far + ", 0)", x.of(far, 0), Check.BEYOND);
            check.due("of(0, " + far + ")", x.of(0, far), Check.BEYOND);
        }
    }

    private static void weeps(int kind, int pride, int hurt, int session, int want) {
        HurtSpeech x = new HurtSpeech();
        if (session > 0) {
            x.sessions(session);
        }
        x.delegate(kind);
        x.set(0, 1, pride);
        x.set(0, 3, hurt);
        check.due("of(0, 5), kind " + kind + " pride " + pride + " hurt " + hurt + " session " + session,
                x.of(0, 5), want);
    }

    private static void ofWeeping() {
        check.topic("promise 3, who would weep");
        weeps(0, 20, 99, 0, 0);
        weeps(0, 20, 100, 0, 1);
        weeps(1, 20, 399, 0, 0);
        weeps(1, 20, 400, 0, 1);
        weeps(2, 5, 99999, 6, 0);
        weeps(3, 20, 39, 0, 0);
        weeps(3, 20, 40, 0, 1);
        weeps(4, 10, 399, 0, 0);
        weeps(4, 10, 400, 0, 1);
        weeps(4, 11, 99999, 0, 0);
        weeps(5, 5, 99999, 0, 0);
        weeps(5, 5, 99999, 5, 0);
        weeps(5, 5, 0, 6, 1);
        weeps(5, 5, 0, 7, 0);
        weeps(5, 5, 0, 13, 1);
        weeps(5, 5, 0, 12, 0);
    }

    private static void set() {
        check.topic("promise 4");
        HurtSpeech x = new HurtSpeech();
        x.delegate(0);
        x.delegate(0);
        int[] first = {0, 5, 1, 0, 0};
        int[] most = {0, 20, 15, 99999, 999};
        for (int what = 1; what <= 4; what++) {
            String call = "set(1, " + what + ", ";
            check.due(call + "most)", x.set(1, what, most[what]), first[what]);
            check.due("of it", x.of(1, what), most[what]);
            check.due(call + "most + 1)", x.set(1, what, most[what] + 1), Check.BEYOND);
            check.due(call + "-1)", x.set(1, what, -1), Check.BEYOND);
            check.due(call + "0)", x.set(1, what, 0), most[what]);
            check.due("of it", x.of(1, what), 0);
            check.due("of the other", x.of(0, what), first[what]);
        }
        check.due("set(1, 0, 1)", x.set(1, 0, 1), Check.BEYOND);
        check.due("set(1, 0, -1)", x.set(1, 0, -1), Check.BEYOND);
        check.due("set(1, 5, 0)", x.set(1, 5, 0), Check.BEYOND);
        check.due("set(1, -1, 0)", x.set(1, -1, 0), Check.BEYOND);
        check.due("set(2, 1, 0)", x.set(2, 1, 0), Check.BEYOND);
        check.due("set(-1, 1, 0)", x.set(-1, 1, 0), Check.BEYOND);
        check.due("of(1, 0)", x.of(1, 0), 0);
        for (int far : Check.FAR) {
            check.due("set(" + far + ", 1, 0)", x.set(far, 1, 0), Check.BEYOND);
            check.due("set(0, " + far + ", 0)", x.set(0, far, 0), Check.BEYOND);
            check.due("set(0, 3, " + far + ")", x.set(0, 3, far), Check.BEYOND);
        }
    }

    private static void turn() {
        check.topic("promise 5");
        HurtSpeech x = new HurtSpeech();
        x.delegate(2);
        x.set(0, 3, 77);
        check.due("turn(0, 5)", x.turn(0, 5), 2);
        check.due("turn(0, 5)", x.turn(0, 5), 5);
        check.due("turn(0, 0)", x.turn(0, 0), 5);
        check.due("turn(0, 6)", x.turn(0, 6), Check.BEYOND);
        check.due("turn(0, -1)", x.turn(0, -1), Check.BEYOND);
        check.due("turn(1, 0)", x.turn(1, 0), Check.BEYOND);
        check.due("turn(-1, 0)", x.turn(-1, 0), Check.BEYOND);
        check.due("of(0, 0)", x.of(0, 0), 0);
        check.due("of(0, 3)", x.of(0, 3), 77);
        for (int far : Check.FAR) {
            check.due("turn(" + far + ", 0)", x.turn(far, 0), Check.BEYOND);
            check.due("turn(0, " + far + ")", x.turn(0, far), Check.BEYOND);
        }
    }

    private static void as() {
        check.topic("promise 6");
        HurtSpeech x = new HurtSpeech();
        int[] kindsOf = {1, 3, 5, 9, 19, 37};
        for (int d = 0; d < 6; d++) {
            x.delegate(d);
            x.set(d, 3, 100 + d);
            for (int kind = 0; kind < 6; kind++) {
                boolean is = (kindsOf[d] >> kind & 1) == 1;
                check.due("as(" + d + ", " + kind + ")", x.as(d, kind), is ? 100 + d : Check.KIND);
            }
        }
        check.due("as(0, 6)", x.as(0, 6), Check.BEYOND);
        check.due("as(0, -1)", x.as(0, -1), Check.BEYOND);
        check.due("as(6, 0)", x.as(6, 0), Check.BEYOND);
        check.due("as(-1, 0)", x.as(-1, 0), Check.BEYOND);
        for (int far : Check.FAR) {
            check.due("as(" + far + ", 0)", x.as(far, 0), Check.BEYOND);
            check.due("as(0, " + far + ")", x.as(0, far), Check.BEYOND);
        }
    }
}
