import java.util.function.Supplier;

/** Promises 13 to 18: each boundary that a sentence of them names, on both sides. */
public final class SessionsBoundsTest {
    private static final Bounds check = new Bounds();
    private static final int LAST = Scene.PEOPLE - 1;
    private static final int LAST_TALK = Scene.TALKS - 1;

    public static void main(String[] args) {
        sessions();
        sessionsAbove();
        now();
        nowOfNothing();
        on();
        left();
        weeps();
        weepsInThe200th();
        when();
        whenInThe200th();
        check.end();
    }

    /** A clerk who is hurt by 1 in each session. */
    private static HurtSpeech slow() {
        return Check.told("delegate;clerk;speech 0 0 2 at 1");
    }

    private static void sessions() {
        check.topic("13: n SESSIONS go (1 to 100): HURT of all together then. BEYOND.");
        check.takes(SessionsBoundsTest::slow, "sessions(1)", 1, x -> x.sessions(1));
        check.takes(SessionsBoundsTest::slow, "sessions(1), now(0)", 1, x -> 0 * x.sessions(1) + x.now(0));
        check.takes(SessionsBoundsTest::slow, "sessions(100)", 100, x -> x.sessions(100));
        check.takes(SessionsBoundsTest::slow, "sessions(100), now(0)", 100, x -> 0 * x.sessions(100) + x.now(0));
        check.beyond(Scene::busy, "sessions(?)", 1, 100, HurtSpeech::sessions);
        check.beyond(HurtSpeech::new, "sessions(?)", 1, 100, HurtSpeech::sessions);
        check.leaves(Scene::busy, "sessions(3) as thrice sessions(1)", x -> x.sessions(3),
                x -> x.sessions(1) + x.sessions(1) + x.sessions(1));
        HurtSpeech x = Scene.full();
        for (int d = 0; d < 8; d++) {
            x.set(d, 3, 99999);
            x.set(d, 2, 0);
        }
        check.due("sessions(1), the most that can be", x.sessions(1), 8 * 99999);
    }

    private static HurtSpeech near(int session) {
        HurtSpeech x = slow();
        for (int at = 0; at < session; at += 100) {
            x.sessions(Math.min(100, session - at));
        }
        return x;
    }

    /** So many calls are more than the document speaks of, so what is refused is only looked at in part. */
    private static void sessionsAbove() {
        check.topic("13: STATE: SESSION would be above 99999.");
        int[][] want = {{99899, 100, 0}, {99900, 100, 1}, {99900, 99, 0}, {99998, 1, 0}, {99998, 2, 1}, {99999, 1, 1},
            {99999, 100, 1}};
        for (int[] one : want) {
            HurtSpeech x = near(one[0]);
            boolean above = one[2] == 1;
            String call = "sessions(" + one[1] + ") in " + one[0];
            check.due(call, x.sessions(one[1]), above ? Check.STATE : one[0] + one[1]);
            check.due(call + ", now(0)", x.now(0), above ? one[0] : one[0] + one[1]);
            check.due(call + ", of(1, 3)", x.of(1, 3), above ? one[0] : one[0] + one[1]);
            check.due(call + ", status(4)", x.status(4), one[2]);
            check.due(call + ", status(-1)", x.status(-1), one[2]);
        }
        check.topic("13: BEYOND, and STATE behind it");
        HurtSpeech x = near(99999);
        check.due("sessions(0)", x.sessions(0), Check.BEYOND);
        check.due("sessions(101)", x.sessions(101), Check.BEYOND);
        check.due("sessions(most)", x.sessions(Integer.MAX_VALUE), Check.BEYOND);
        check.due("status(4)", x.status(4), 0);
    }

    private static void now() {
        check.topic("14: What 0 SESSION, .. 4 speeches without an INTERPRETER, as a set. BEYOND.");
        check.tells(Scene::busy, "now(0)", 7, x -> x.now(0));
        check.tells(Scene::busy, "now(1)", 3, x -> x.now(1));
        check.tells(Scene::busy, "now(4)", 4, x -> x.now(4));
        check.beyond(Scene::busy, "now(?)", 0, 4, HurtSpeech::now);
        check.beyond(HurtSpeech::new, "now(?)", 0, 4, HurtSpeech::now);
        HurtSpeech x = Scene.full();
        check.due("now(3)", x.now(3), 90 + 91 + 92 + 93 + 94 + 95 + 96 + 97);
        for (int d = 0; d < 8; d++) {
            x.set(d, 2, 0);
        }
        check.due("now(4), when nobody has a tongue", x.now(4), 255);
        for (int s = 0; s < 8; s++) {
            x.turn(s, 0);
            x.set(s, 2, 15);
        }
        check.due("now(4), when all have all", x.now(4), 0);
        x.tell(7, 3, 0);
        check.due("now(4), when the last is of force 0", x.now(4), 128);
    }

    private static void nowOfNothing() {
        check.topic("14: 1 the speech that is held next (-1: none)");
        check.tells(() -> Check.told("delegate"), "now(1)", -1, x -> x.now(1));
        check.tells(SessionsBoundsTest::slow, "now(1)", 0, x -> x.now(1));
        int[] empty = {0, -1, 0, 0, 0};
        for (int what = 0; what <= 4; what++) {
            int asked = what;
            check.tells(HurtSpeech::new, "now(" + what + ")", empty[what], x -> x.now(asked));
        }
    }

    private static void on() {
        check.topic("15: HURT (what 0), WEPT (1) of one ON n SESSIONS (0 to 200). BEYOND.");
        check.tells(SessionsBoundsTest::slow, "on(1, 0, 0)", 0, x -> x.on(1, 0, 0));
        check.tells(SessionsBoundsTest::slow, "on(1, 1, 0)", 1, x -> x.on(1, 1, 0));
        check.tells(SessionsBoundsTest::slow, "on(1, 200, 0)", 200, x -> x.on(1, 200, 0));
        check.tells(SessionsBoundsTest::slow, "on(1, 200, 1)", 0, x -> x.on(1, 200, 1));
        check.tells(Scene::busy, "on(6, 0, 1)", 0, x -> x.on(LAST, 0, 1));
        check.tells(Scene::busy, "on(3, 200, 0)", afterTwoHundred().of(3, 3), x -> x.on(3, 200, 0));
        check.tells(Scene::busy, "on(3, 200, 1)", afterTwoHundred().of(3, 4), x -> x.on(3, 200, 1));
        check.beyond(Scene::busy, "on(?, 0, 0)", 0, LAST, (x, v) -> x.on(v, 0, 0));
        check.beyond(Scene::busy, "on(0, ?, 0)", 0, 200, (x, v) -> x.on(0, v, 0));
        check.beyond(Scene::busy, "on(0, ?, 1)", 0, 200, (x, v) -> x.on(0, v, 1));
        check.beyond(Scene::busy, "on(0, 0, ?)", 0, 1, (x, v) -> x.on(0, 0, v));
        check.beyond(Scene::full, "on(?, 200, 1)", 0, 7, (x, v) -> x.on(v, 200, 1));
    }

    private static HurtSpeech afterTwoHundred() {
        HurtSpeech x = Scene.busy();
        x.sessions(100);
        x.sessions(100);
        return x;
    }

    private static void left() {
        check.topic("16: FORCE of a speech ON n SESSIONS (0 to 200). BEYOND.");
        for (int s = 0; s < Scene.TALKS; s++) {
            int speech = s;
            check.tells(Scene::busy, "left(" + s + ", 0)", Scene.busy().speechOf(s, 3), x -> x.left(speech, 0));
            check.tells(Scene::busy, "left(" + s + ", 200)", afterTwoHundred().speechOf(s, 3),
                    x -> x.left(speech, 200));
        }
        check.beyond(Scene::busy, "left(?, 0)", 0, LAST_TALK, (x, v) -> x.left(v, 0));
        check.beyond(Scene::full, "left(?, 200)", 0, 7, (x, v) -> x.left(v, 200));
        check.beyond(Scene::busy, "left(0, ?)", 0, 200, (x, v) -> x.left(0, v));
        check.beyond(Scene::busy, "left(3, ?)", 0, 200, (x, v) -> x.left(LAST_TALK, v));
        HurtSpeech y = lateWeeping(200, 0);
        check.due("left(1, 199), wept over in the 200th", y.left(1, 199), 4);
        check.due("left(1, 200), wept over in the 200th", y.left(1, 200), 2);
        HurtSpeech z = lateWeeping(201, 0);
        check.due("left(0, 200), wept over in the 201st", z.left(0, 200), 4);
        z.sessions(1);
        check.due("left(0, 200), one session on", z.left(0, 200), 2);
    }

    /**
     * A peer who has 400, and what is told as more, in the session told (1 is the first). He loses 2 in each; for a
     * session above 200 in every other one, since else he would have to begin below 0.
     */
    private static HurtSpeech lateWeeping(int session, int more) {
        HurtSpeech x = Check.told("delegate;peer has 1;speech 0 1 4 at 1;speech 0 1 4 at 1");
        x.tell(1, 2, session > 200 ? -1 : 1);
        x.set(1, 3, (session > 200 ? 400 - 2 * ((session + 1) / 2) : 400 - 2 * session) + more);
        return x;
    }

    private static void weeps() {
        check.topic("17: BEYOND.");
        check.beyond(Scene::busy, "weeps(?)", 0, LAST, HurtSpeech::weeps);
        check.beyond(Scene::full, "weeps(?)", 0, 7, HurtSpeech::weeps);
        check.topic("17: NONE.");
        check.refused(Scene::busy, "weeps(2), a clerk", Check.NONE, x -> x.weeps(2));
        check.refused(Scene::full, "weeps(7), a clerk", Check.NONE, x -> x.weeps(7));
        check.refused(() -> Check.told("exile"), "weeps(0), without speeches", Check.NONE, x -> x.weeps(0));
    }

    private static void weepsInThe200th() {
        check.topic("17: In how many SESSIONS (1 to 200) ON one WEEPS next. NONE.");
        check.tells(() -> lateWeeping(1, 0), "weeps(1) in the first", 1, x -> x.weeps(1));
        check.tells(() -> lateWeeping(1, -1), "weeps(1) in the second, hurt by 399 in the first", 2, x -> x.weeps(1));
        check.tells(() -> lateWeeping(199, 0), "weeps(1) in the 199th", 199, x -> x.weeps(1));
        check.tells(() -> lateWeeping(200, 0), "weeps(1) in the 200th", 200, x -> x.weeps(1));
        check.refused(() -> lateWeeping(201, 0), "weeps(1) in the 201st", Check.NONE, x -> x.weeps(1));
        check.takes(() -> lateWeeping(201, 0), "weeps(1) in the 201st, one session on", 200,
                x -> 0 * x.sessions(1) + x.weeps(1));
        HurtSpeech x = lateWeeping(1, 0);
        x.set(1, 4, 999);
        check.due("weeps(1), though WEPT is 999", x.weeps(1), 1);
    }

    private static void when() {
        check.topic("18: HURT of one is v (0 to 99999) or more first. BEYOND.");
        check.tells(SessionsBoundsTest::slow, "when(1, 0)", 0, x -> x.when(1, 0));
        check.tells(SessionsBoundsTest::slow, "when(1, 1)", 1, x -> x.when(1, 1));
        check.beyond(Scene::busy, "when(?, 0)", 0, LAST, (x, v) -> x.when(v, 0));
        check.beyond(Scene::full, "when(?, 99999)", 0, 7, (x, v) -> x.when(v, 99999));
        check.beyond(Scene::busy, "when(0, ?)", 0, 99999, (x, v) -> x.when(0, v));
        HurtSpeech x = slow();
        x.set(1, 3, 99799);
        check.due("when(1, 99999)", x.when(1, 99999), 200);
        x.set(1, 3, 99999);
        check.due("when(1, 99999)", x.when(1, 99999), 0);
        x.set(1, 3, 99998);
        check.due("when(1, 99999)", x.when(1, 99999), 1);
        check.due("when(1, 99998)", x.when(1, 99998), 0);
    }

    private static void whenInThe200th() {
        check.topic("18: In how many SESSIONS (0 to 200) ON. NONE.");
        check.tells(SessionsBoundsTest::slow, "when(1, 199)", 199, x -> x.when(1, 199));
        check.tells(SessionsBoundsTest::slow, "when(1, 200)", 200, x -> x.when(1, 200));
        check.refused(SessionsBoundsTest::slow, "when(1, 201)", Check.NONE, x -> x.when(1, 201));
        check.refused(SessionsBoundsTest::slow, "when(1, 99999)", Check.NONE, x -> x.when(1, 99999));
        check.refused(SessionsBoundsTest::slow, "when(0, 1)", Check.NONE, x -> x.when(0, 1));
        check.topic("18: is v or more first");
        Supplier<HurtSpeech> byTwo = () -> Check.told("delegate;clerk;speech 0 0 4 at 1");
        check.tells(byTwo, "when(1, 1), which it never is", 1, x -> x.when(1, 1));
        check.tells(byTwo, "when(1, 2)", 1, x -> x.when(1, 2));
        check.tells(byTwo, "when(1, 399), which it never is", 200, x -> x.when(1, 399));
        check.tells(byTwo, "when(1, 400)", 200, x -> x.when(1, 400));
        check.refused(byTwo, "when(1, 401)", Check.NONE, x -> x.when(1, 401));
        HurtSpeech weeping = lateWeeping(1, -1);
        check.due("when(1, 399)", weeping.when(1, 399), 1);
        check.due("when(1, 400), which is halved as soon as it is", weeping.when(1, 400), Check.NONE);
    }
}
