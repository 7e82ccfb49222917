/** Promises 13 to 18: sessions, now, on, left, weeps, when. */
public final class SessionsTest {
    private static final Check check = new Check();

    public static void main(String[] args) {
        sessions();
        sessionsAtTheLimits();
        sessionsInTurn();
        sessionsOfAScribe();
        sessionsTooMany();
        now();
        on();
        left();
        weeps();
        when();
        nothingChanges();
        check.end();
    }

    /**
     * One who weeps, with pride 5, over a speech of 65. Told by hand: HURT 60; 120, weeps: 60, FORCE 32;
     * 87; 114, weeps: 57, FORCE 16; 68, 79, 90; 101, weeps: 50, FORCE 8; 53, .. 98; 101, weeps: 50, FORCE 4; 50, ..
     */
    private static HurtSpeech montenegrin() {
        return Check.told("delegate;delegate;speech 0 0 65 at 1");
    }

    private static int hurtAfter(int n) {
        int[] first = {0, 60, 60, 87, 57, 68, 79, 90, 50};
        if (n <= 8) {
            return first[n];
        }
        return n < 25 ? 50 + 3 * (n - 8) : 50;
    }

    private static int weptAfter(int n) {
        return (n >= 2 ? 1 : 0) + (n >= 4 ? 1 : 0) + (n >= 8 ? 1 : 0) + (n >= 25 ? 1 : 0);
    }

    private static void sessions() {
        check.topic("promise 13");
        HurtSpeech x = montenegrin();
        for (int n = 1; n <= 30; n++) {
            check.due("sessions(1), the " + n + "th", x.sessions(1), hurtAfter(n));
            check.due("of(1, 3)", x.of(1, 3), hurtAfter(n));
            check.due("of(1, 4)", x.of(1, 4), weptAfter(n));
            check.due("speechOf(0, 3)", x.speechOf(0, 3), 65 >> weptAfter(n));
            check.due("now(0)", x.now(0), n);
        }
        HurtSpeech y = montenegrin();
        check.due("sessions(24)", y.sessions(24), 98);
        check.due("sessions(100)", y.sessions(100), 50);
        check.due("sessions(0)", y.sessions(0), Check.BEYOND);
        check.due("sessions(-1)", y.sessions(-1), Check.BEYOND);
        check.due("sessions(101)", y.sessions(101), Check.BEYOND);
        for (int far : Check.FAR) {
            check.due("sessions(" + far + ")", y.sessions(far), Check.BEYOND);
        }
        check.due("now(0)", y.now(0), 124);
        HurtSpeech z = new HurtSpeech();
        check.due("sessions(3) of nobody", z.sessions(3), 0);
        check.due("now(0)", z.now(0), 3);
    }

    private static void sessionsAtTheLimits() {
        check.topic("promise 13, at the limits");
        HurtSpeech x = Check.told("delegate;clerk;delegate;speech 0 0 40 at 1");
        x.set(1, 3, 99990);
        x.set(2, 3, 99998);
        check.due("sessions(1)", x.sessions(1), 99999 + 99999);
        check.due("of(1, 4), a clerk never weeps", x.of(1, 4), 0);
        x.set(2, 3, 500);
        check.due("sessions(1), who does not interpret does not weep", x.sessions(1), 99999 + 508);
        x.turn(1, 0);
        x.set(1, 4, 999);
        check.due("sessions(1)", x.sessions(1), 49999 + 515);
        check.due("of(1, 4), held to 999", x.of(1, 4), 999);
        check.due("speechOf(0, 3)", x.speechOf(0, 3), 20);
    }

    private static void sessionsInTurn() {
        check.topic("promise 13, in turn");
        HurtSpeech x = Check.told("delegate;clerk;clerk;speech 0 0 20 at 1;speech 0 1 90 at 1;speech 0 0 60 at 2");
        check.due("sessions(1)", x.sessions(1), 10 + 2);
        check.due("sessions(1), without an interpreter", x.sessions(1), 12);
        check.due("sessions(1)", x.sessions(1), 12 + 30 + 6);
        check.due("sessions(1)", x.sessions(1), 48 + 12);
        check.due("of(1, 3)", x.of(1, 3), 10 + 6 + 10);
        check.due("of(2, 3)", x.of(2, 3), 2 + 30 + 2);
    }

    private static void sessionsOfAScribe() {
        check.topic("promise 13, a scribe");
        HurtSpeech x = Check.told("delegate;scribe;speech 0 0 41 at 1");
        check.due("sessions(6)", x.sessions(6), 6 * 21);
        check.due("of(1, 4)", x.of(1, 4), 0);
        check.due("sessions(1), in which it is 6", x.sessions(1), 7 * 21 / 2);
        check.due("of(1, 4)", x.of(1, 4), 1);
        check.due("speechOf(0, 3)", x.speechOf(0, 3), 20);
        check.due("sessions(6)", x.sessions(6), 73 + 6 * 10);
        check.due("sessions(1)", x.sessions(1), (73 + 7 * 10) / 2);
        check.due("of(1, 4)", x.of(1, 4), 2);
    }

    /** So many calls are more than the document speaks of; the refusal should stand all the same. */
    private static void sessionsTooMany() {
        check.topic("promise 13, too many");
        HurtSpeech x = new HurtSpeech();
        for (int i = 0; i < 999; i++) {
            x.sessions(100);
        }
        check.due("sessions(100)", x.sessions(100), Check.STATE);
        check.due("sessions(101)", x.sessions(101), Check.BEYOND);
        check.due("sessions(98)", x.sessions(98), 0);
        check.due("sessions(2)", x.sessions(2), Check.STATE);
        check.due("sessions(1)", x.sessions(1), 0);
        check.due("sessions(1)", x.sessions(1), Check.STATE);
        check.due("now(0)", x.now(0), 99999);
    }

    private static void now() {
        check.topic("promise 14");
        HurtSpeech x = Check.told("delegate;clerk;clerk;speech 0 0 20 at 1;speech 0 1 90 at 1;speech 0 0 60");
        x.set(0, 3, 7);
        x.set(2, 3, 8);
        int[] want = {0, 0, 15, 170, 6};
        for (int what = 0; what < 5; what++) {
            check.due("now(" + what + ")", x.now(what), want[what]);
        }
        for (int n = 1; n < 8; n++) {
            x.sessions(1);
            check.due("now(1)", x.now(1), n % 3);
        }
        x.speech(1, 0, 0, 50);
        check.due("now(1), of four", x.now(1), 3);
        check.due("now(-1)", x.now(-1), Check.BEYOND);
        check.due("now(5)", x.now(5), Check.BEYOND);
        for (int far : Check.FAR) {
            check.due("now(" + far + ")", x.now(far), Check.BEYOND);
        }
    }

    private static void on() {
        check.topic("promise 15");
        HurtSpeech x = montenegrin();
        for (int n = 0; n <= 200; n++) {
            check.due("on(1, " + n + ", 0)", x.on(1, n, 0), hurtAfter(n));
            check.due("on(1, " + n + ", 1)", x.on(1, n, 1), weptAfter(n));
        }
        check.due("on(0, 200, 0)", x.on(0, 200, 0), 0);
        check.due("on(1, -1, 0)", x.on(1, -1, 0), Check.BEYOND);
        check.due("on(1, 201, 0)", x.on(1, 201, 0), Check.BEYOND);
        check.due("on(1, 0, -1)", x.on(1, 0, -1), Check.BEYOND);
        check.due("on(1, 0, 2)", x.on(1, 0, 2), Check.BEYOND);
        check.due("on(2, 0, 0)", x.on(2, 0, 0), Check.BEYOND);
        check.due("on(-1, 0, 0)", x.on(-1, 0, 0), Check.BEYOND);
        for (int far : Check.FAR) {
            check.due("on(" + far + ", 0, 0)", x.on(far, 0, 0), Check.BEYOND);
            check.due("on(0, " + far + ", 0)", x.on(0, far, 0), Check.BEYOND);
            check.due("on(0, 0, " + far + ")", x.on(0, 0, far), Check.BEYOND);
        }
    }

    private static void left() {
        check.topic("promise 16");
        HurtSpeech x = montenegrin();
        for (int n = 0; n <= 200; n++) {
            check.due("left(0, " + n + ")", x.left(0, n), 65 >> weptAfter(n));
        }
        check.due("left(0, -1)", x.left(0, -1), Check.BEYOND);
        check.due("left(0, 201)", x.left(0, 201), Check.BEYOND);
        check.due("left(1, 0)", x.left(1, 0), Check.BEYOND);
        check.due("left(-1, 0)", x.left(-1, 0), Check.BEYOND);
        for (int far : Check.FAR) {
            check.due("left(" + far + ", 0)", x.left(far, 0), Check.BEYOND);
            check.due("left(0, " + far + ")", x.left(0, far), Check.BEYOND);
        }
    }

    private static void weeps() {
        check.topic("promise 17");
        HurtSpeech x = montenegrin();
        int[] weepings = {2, 4, 8, 25};
        int gone = 0;
        for (int weeping : weepings) {
            check.due("weeps(1) after " + gone, x.weeps(1), weeping - gone);
            x.sessions(weeping - gone);
            gone = weeping;
        }
        check.due("weeps(1), never again", x.weeps(1), Check.NONE);
        check.due("weeps(0), who does not interpret", x.weeps(0), Check.NONE);
        check.due("weeps(2)", x.weeps(2), Check.BEYOND);
        check.due("weeps(-1)", x.weeps(-1), Check.BEYOND);
        for (int far : Check.FAR) {
            check.due("weeps(" + far + ")", x.weeps(far), Check.BEYOND);
        }
        HurtSpeech y = montenegrin();
        y.set(1, 4, 999);
        check.due("weeps(1), though WEPT can't be more", y.weeps(1), 2);
        slowWeeping();
    }

    /** A peer who loses 2 by each: weeps when HURT is 400, in the last session that is looked at, or too late. */
    private static void slowWeeping() {
        HurtSpeech x = Check.told("delegate;peer has 1;speech 0 1 4 at 1");
        check.due("weeps(1) in 200", x.weeps(1), 200);
        check.due("when(1, 398)", x.when(1, 398), 199);
        x.tell(0, 3, 2);
        x.set(1, 3, 199);
        check.due("weeps(1) in 201", x.weeps(1), Check.NONE);
        check.due("when(1, 398)", x.when(1, 398), 199);
        check.due("when(1, 399)", x.when(1, 399), 200);
        check.due("when(1, 400)", x.when(1, 400), Check.NONE);
    }

    private static void when() {
        check.topic("promise 18");
        HurtSpeech x = montenegrin();
        int[][] want = {{0, 0}, {1, 1}, {60, 1}, {61, 3}, {87, 3}, {88, 7}, {90, 7}, {91, 22}, {98, 24}};
        for (int[] pair : want) {
            check.due("when(1, " + pair[0] + ")", x.when(1, pair[0]), pair[1]);
        }
        check.due("when(1, 99)", x.when(1, 99), Check.NONE);
        check.due("when(1, 99999)", x.when(1, 99999), Check.NONE);
        check.due("when(1, 100000)", x.when(1, 100000), Check.BEYOND);
        check.due("when(1, -1)", x.when(1, -1), Check.BEYOND);
        check.due("when(2, 0)", x.when(2, 0), Check.BEYOND);
        check.due("when(-1, 0)", x.when(-1, 0), Check.BEYOND);
        for (int far : Check.FAR) {
            check.due("when(" + far + ", 0)", x.when(far, 0), Check.BEYOND);
            check.due("when(0, " + far + ")", x.when(0, far), Check.BEYOND);
        }
        x.set(0, 3, 99999);
        check.due("when(0, 99999)", x.when(0, 99999), 0);
    }

    private static void nothingChanges() {
        check.topic("promises 15 to 18, nothing changes");
        HurtSpeech x = montenegrin();
        x.on(1, 200, 1);
        x.left(0, 200);
        x.weeps(1);
        x.weeps(0);
        x.when(1, 98);
        x.when(1, 99);
        check.due("now(0)", x.now(0), 0);
        check.due("now(2)", x.now(2), 0);
        check.due("now(3)", x.now(3), 65);
        check.due("count(3)", x.count(3), 0);
    }
}
