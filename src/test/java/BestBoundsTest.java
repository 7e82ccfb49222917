import java.util.function.Supplier;

/** Promises 19 to 25: each boundary that a sentence of them names, on both sides. */
public final class BestBoundsTest {
    private static final Bounds check = new Bounds();
    private static final int LAST = Scene.PEOPLE - 1;
    private static final int LAST_TALK = Scene.TALKS - 1;

    public static void main(String[] args) {
        tongue();
        tongueInThe60th();
        aim();
        aimInThe60th();
        kind();
        kindOfSeveral();
        pride();
        prideEnough();
        learn();
        learnInThe60th();
        withdraw();
        withdrawInThe60th();
        saddest();
        asIfDone();
        check.end();
    }

    /**
     * A peer who loses 2 in each session, if it is held in French and he hears it, and has 400 in the session told
     * (1 is the first): then he weeps and has 200, which is less than he began with.
     */
    private static HurtSpeech weepingIn(int session) {
        HurtSpeech x = Check.told("delegate;peer has 1;speech 0 1 4 at 1");
        x.set(1, 3, 400 - 2 * session);
        return x;
    }

    private static void tongue() {
        check.topic("19: ON n SESSIONS (1 to 60). BEYOND.");
        check.beyond(Scene::busy, "tongue(?, 1)", 0, LAST_TALK, (x, v) -> x.tongue(v, 1));
        check.beyond(Scene::full, "tongue(?, 60)", 0, 7, (x, v) -> x.tongue(v, 60));
        check.beyond(Scene::busy, "tongue(0, ?)", 1, 60, (x, v) -> x.tongue(0, v));
        check.beyond(Scene::busy, "tongue(3, ?)", 1, 60, (x, v) -> x.tongue(LAST_TALK, v));
        check.topic("19: The TONGUE IN which a speech had best be held; of several the least");
        HurtSpeech x = Check.told("delegate;clerk has 0 1 2;speech 0 0 50 at 1");
        check.due("tongue(0, 1), that nobody has", x.tongue(0, 1), 3);
        x.set(1, 2, 14);
        check.due("tongue(0, 1), that nobody has", x.tongue(0, 1), 0);
        x.set(1, 2, 15);
        check.due("tongue(0, 1), of four alike", x.tongue(0, 1), 0);
        x.tell(0, 1, 3);
        check.due("tongue(0, 60), of four alike", x.tongue(0, 60), 0);
    }

    private static void tongueInThe60th() {
        check.topic("19: so that HURT of all together is least ON n SESSIONS");
        check.tells(() -> weepingIn(1), "tongue(0, 1)", 1, x -> x.tongue(0, 1));
        check.tells(() -> weepingIn(2), "tongue(0, 1), weeping in the 2nd", 0, x -> x.tongue(0, 1));
        check.tells(() -> weepingIn(60), "tongue(0, 59), weeping in the 60th", 0, x -> x.tongue(0, 59));
        check.tells(() -> weepingIn(60), "tongue(0, 60), weeping in the 60th", 1, x -> x.tongue(0, 60));
        check.tells(() -> weepingIn(61), "tongue(0, 60), weeping in the 61st", 0, x -> x.tongue(0, 60));
        check.tells(Scene::full, "tongue(7, 60), which is held last", Scene.full().tongue(7, 60), x -> x.tongue(7, 60));
    }

    private static void aim() {
        check.topic("20: ON n SESSIONS (1 to 60). BEYOND.");
        check.beyond(Scene::busy, "aim(?, 0, 1)", 0, LAST_TALK, (x, v) -> x.aim(v, 0, 1));
        check.beyond(Scene::busy, "aim(0, ?, 1)", 0, LAST, (x, v) -> x.aim(0, v, 1));
        check.beyond(Scene::busy, "aim(0, 0, ?)", 1, 60, (x, v) -> x.aim(0, 0, v));
        check.beyond(Scene::full, "aim(?, 7, 60)", 0, 7, (x, v) -> x.aim(v, 7, 60));
        check.beyond(Scene::full, "aim(7, ?, 60)", 0, 7, (x, v) -> x.aim(7, v, 60));
        check.topic("20: 1 and that number (0: nobody); of several the least");
        HurtSpeech x = Scene.full();
        for (int d = 0; d < 8; d++) {
            x.turn(d, 2);
            x.set(d, 2, 15);
        }
        check.due("aim(0, 7, 1), at the last", x.aim(0, 7, 1), 8);
        check.due("aim(0, 1, 1)", x.aim(0, 1, 1), 2);
        check.due("aim(0, 0, 1), whom his own does not hurt", x.aim(0, 0, 1), 0);
        x.tell(0, 2, 7);
        check.due("aim(0, 0, 1), as it is", x.aim(0, 0, 1), 0);
        x.tell(0, 0, 7);
        check.due("aim(0, 0, 1), at the first", x.aim(0, 0, 1), 1);
        check.due("aim(1, 7, 1), which is not held", x.aim(1, 7, 1), 0);
        check.due("aim(1, 7, 2), which is held then", x.aim(1, 7, 2), 8);
    }

    /** Aimed at him by whom it is, a speech comes over by the exile, and hurts the onlooker more than at the exile. */
    private static void aimInThe60th() {
        check.topic("20: so that HURT of one is most ON n SESSIONS");
        check.tells(() -> weepingIn(2), "aim(0, 1, 1), weeping in the 2nd", 2, x -> x.aim(0, 1, 1));
        check.tells(() -> weepingIn(1), "aim(0, 1, 1), weeping in the 1st", 0, x -> x.aim(0, 1, 1));
        check.tells(() -> weepingIn(60), "aim(0, 1, 59), weeping in the 60th", 2, x -> x.aim(0, 1, 59));
        check.tells(() -> weepingIn(60), "aim(0, 1, 60), weeping in the 60th", 0, x -> x.aim(0, 1, 60));
        check.tells(() -> weepingIn(61), "aim(0, 1, 60), weeping in the 61st", 2, x -> x.aim(0, 1, 60));
        check.topic("20: (others, himself, nobody)");
        Supplier<HurtSpeech> two = () -> Check.told("delegate;delegate;speech 0 0 60 at 1");
        check.takes(two, "aim(0, 1, 1), at him", 2, x -> x.aim(0, 1, 1));
        check.takes(two, "aim(0, 1, 1), who would weep: 50, 61, 52", 1,
                x -> 0 * x.set(1, 3, 50) + x.aim(0, 1, 1));
        check.takes(two, "aim(0, 1, 1), who would weep either way: 110, 60, 82", 0,
                x -> 0 * x.set(1, 3, 110) + x.aim(0, 1, 1));
    }

    private static void kind() {
        check.topic("21: ON n SESSIONS (1 to 60). BEYOND.");
        check.beyond(Scene::busy, "kind(?, 1)", 0, LAST, (x, v) -> x.kind(v, 1));
        check.beyond(Scene::full, "kind(?, 60)", 0, 7, (x, v) -> x.kind(v, 60));
        check.beyond(Scene::busy, "kind(0, ?)", 1, 60, (x, v) -> x.kind(0, v));
        check.beyond(Scene::busy, "kind(6, ?)", 1, 60, (x, v) -> x.kind(LAST, v));
        check.topic("21: The KIND as one of which HURT of one is least; of several the least");
        Supplier<HurtSpeech> at = () -> Check.told("clerk;clerk has 1;speech 0 1 50 at 1");
        check.tells(at, "kind(0, 1), whom nothing hurts", 0, x -> x.kind(0, 1));
        check.tells(at, "kind(1, 1): 45, 25, 25, 47, 24, 25", 4, x -> x.kind(1, 1));
        check.takes(at, "kind(1, 1) without pride: 50, 25, 25, 49, 25, 25", 1,
                x -> 0 * x.set(1, 1, 0) + x.kind(1, 1));
        Supplier<HurtSpeech> notInFrench = () -> Check.told("clerk;clerk;speech 0 0 50 at 1");
        check.tells(notInFrench, "kind(1, 1): 45, 0, ..", 1, x -> x.kind(1, 1));
    }

    private static void kindOfSeveral() {
        check.topic("21: HURT of one is least ON n SESSIONS");
        Supplier<HurtSpeech> two = () -> Check.told("clerk;clerk has 1;speech 0 1 3 at 1;speech 0 1 2 at 1");
        check.takes(two, "kind(1, 1), pride 2: 1, 1, 1, 4, 0, 1", 4, x -> 0 * x.set(1, 1, 2) + x.kind(1, 1));
        check.takes(two, "kind(1, 1), pride 3: 0, 1, 1, 0 for nothing comes over, ..", 0,
                x -> 0 * x.set(1, 1, 3) + x.kind(1, 1));
        Supplier<HurtSpeech> late = () -> {
            HurtSpeech x = Check.told("clerk;clerk has 1;speech 0 1 2 at 1");
            x.sessions(6);
            x.set(1, 3, 30);
            x.set(1, 1, 20);
            return x;
        };
        check.takes(late, "kind(1, 1), a scribe weeps in session 6: 15", 5, x -> x.kind(1, 1));
        check.takes(late, "kind(1, 1), but not in session 7", 0, x -> 0 * x.sessions(1) + x.kind(1, 1));
    }

    private static void pride() {
        check.topic("22: ON n SESSIONS (1 to 60), v (0 to 99999). BEYOND.");
        check.beyond(Scene::busy, "pride(?, 1, 99999)", 0, LAST, (x, v) -> x.pride(v, 1, 99999));
        check.beyond(Scene::full, "pride(?, 60, 99999)", 0, 7, (x, v) -> x.pride(v, 60, 99999));
        check.beyond(Scene::busy, "pride(0, ?, 99999)", 1, 60, (x, v) -> x.pride(0, v, 99999));
        check.beyond(Scene::busy, "pride(0, 1, ?)", 0, 99999, (x, v) -> x.pride(0, 1, v));
        check.topic("22: BEYOND, and NONE behind it");
        check.beyond(Scene::busy, "pride(?, 1, 0)", 0, LAST, (x, v) -> x.pride(v, 1, 0));
        check.beyond(Scene::busy, "pride(6, ?, 0)", 1, 60, (x, v) -> x.pride(LAST, v, 0));
        check.topic("22: NONE.");
        check.refused(Scene::busy, "pride(6, 1, 0)", Check.NONE, x -> x.pride(LAST, 1, 0));
        check.refused(Scene::busy, "pride(0, 60, 0)", Check.NONE, x -> x.pride(0, 60, 0));
        check.tells(Scene::busy, "pride(0, 1, 99999)", 0, x -> x.pride(0, 1, 99999));
        HurtSpeech x = Check.told("clerk;clerk");
        x.set(0, 3, 99999);
        check.due("pride(0, 1, 99999)", x.pride(0, 1, 99999), 0);
        x.set(1, 3, 1);
        check.due("pride(0, 1, 99999), of 100000", x.pride(0, 1, 99999), Check.NONE);
    }

    private static HurtSpeech atDelegate(int force) {
        HurtSpeech x = Check.told("delegate;delegate pride 20");
        x.speech(0, 0, 1, force);
        return x;
    }

    private static void prideEnough() {
        check.topic("22: The least PRIDE (0 to 20) of one with which HURT of all together is v or less");
        check.tells(() -> atDelegate(1), "pride(1, 60, 60)", 0, x -> x.pride(1, 60, 60));
        check.tells(() -> atDelegate(1), "pride(1, 60, 59)", 1, x -> x.pride(1, 60, 59));
        check.tells(() -> atDelegate(1), "pride(1, 59, 59)", 0, x -> x.pride(1, 59, 59));
        check.tells(() -> atDelegate(1), "pride(1, 1, 1)", 0, x -> x.pride(1, 1, 1));
        check.tells(() -> atDelegate(1), "pride(1, 1, 0)", 1, x -> x.pride(1, 1, 0));
        check.tells(() -> atDelegate(0), "pride(1, 1, 0)", 0, x -> x.pride(1, 1, 0));
        check.tells(() -> atDelegate(19), "pride(1, 60, 0)", 19, x -> x.pride(1, 60, 0));
        check.tells(() -> atDelegate(20), "pride(1, 60, 0)", 20, x -> x.pride(1, 60, 0));
        check.refused(() -> atDelegate(21), "pride(1, 60, 0)", Check.NONE, x -> x.pride(1, 60, 0));
        check.refused(() -> atDelegate(21), "pride(1, 1, 0)", Check.NONE, x -> x.pride(1, 1, 0));
        check.tells(() -> atDelegate(21), "pride(1, 1, 1)", 20, x -> x.pride(1, 1, 1));
    }

    private static void learn() {
        check.topic("23: ON n SESSIONS (1 to 60). BEYOND.");
        check.beyond(Scene::busy, "learn(?, 1)", 0, LAST, (x, v) -> x.learn(v, 1));
        check.beyond(Scene::full, "learn(?, 60)", 0, 7, (x, v) -> x.learn(v, 60));
        check.beyond(Scene::busy, "learn(0, ?)", 1, 60, (x, v) -> x.learn(0, v));
        check.beyond(Scene::busy, "learn(6, ?)", 1, 60, (x, v) -> x.learn(LAST, v));
        check.topic("23: The set of TONGUES that one had best have; of several the least");
        HurtSpeech x = exileWithAllTongues();
        check.due("learn(1, 1)", x.learn(1, 1), 1);
        check.due("learn(1, 2)", x.learn(1, 2), 3);
        check.due("learn(1, 3)", x.learn(1, 3), 7);
        check.due("learn(1, 4)", x.learn(1, 4), 15);
        check.due("learn(0, 60), whom nothing hurts", x.learn(0, 60), 0);
        x.set(2, 2, 8);
        check.due("learn(1, 3), none of which another hears", x.learn(1, 3), 0);
        check.due("learn(1, 4)", x.learn(1, 4), 8);
    }

    /** The exile renders twice what the delegate would, who is hurt less the more tongues he has. */
    private static HurtSpeech exileWithAllTongues() {
        HurtSpeech x = Check.told("delegate;delegate;exile pride 0 has 0 1 2 3");
        for (int tongue = 0; tongue < 4; tongue++) {
            x.speech(0, tongue, 1, 10);
        }
        return x;
    }

    private static void learnInThe60th() {
        check.topic("23: so that his HURT is least ON n SESSIONS");
        check.tells(() -> weepingIn(1), "learn(1, 1), weeping in the 1st", 2, y -> y.learn(1, 1));
        check.tells(() -> weepingIn(2), "learn(1, 1), weeping in the 2nd", 0, y -> y.learn(1, 1));
        check.tells(() -> weepingIn(60), "learn(1, 59), weeping in the 60th", 0, y -> y.learn(1, 59));
        check.tells(() -> weepingIn(60), "learn(1, 60), weeping in the 60th", 2, y -> y.learn(1, 60));
        check.tells(() -> weepingIn(61), "learn(1, 60), weeping in the 61st", 0, y -> y.learn(1, 60));
    }

    private static void withdraw() {
        check.topic("24: ON n SESSIONS (1 to 60). BEYOND.");
        check.beyond(Scene::busy, "withdraw(?)", 1, 60, HurtSpeech::withdraw);
        check.topic("24: NONE: there is none.");
        Supplier<HurtSpeech> without = () -> Check.told("delegate;clerk");
        check.refused(without, "withdraw(1)", Check.NONE, x -> x.withdraw(1));
        check.refused(without, "withdraw(60)", Check.NONE, x -> x.withdraw(60));
        check.takes(without, "withdraw(1) of one", 0, x -> x.speech(0, 0, -1, 0) + x.withdraw(1));
        check.topic("24: BEYOND, and NONE behind it");
        check.beyond(without, "withdraw(?)", 1, 60, HurtSpeech::withdraw);
        check.topic("24: of several the least");
        HurtSpeech x = Scene.full();
        for (int s = 0; s < 8; s++) {
            x.tell(s, 2, -1);
        }
        check.due("withdraw(60), of eight alike", x.withdraw(60), 0);
        x.tell(7, 2, 7);
        x.tell(7, 0, 0);
        x.tell(7, 1, 0);
        check.due("withdraw(7), the last is not held yet", x.withdraw(7), 0);
        check.due("withdraw(8), the last is", x.withdraw(8), 7);
    }

    /**
     * The first speech hurts 1 by 1, the second 2 by 2, who has 400 in the 60th session and weeps: unless the second
     * is withdrawn.
     */
    private static HurtSpeech twoPeers(int late) {
        HurtSpeech x = Check.told("delegate;peer has 1;peer has 1;speech 0 1 2 at 1;speech 0 1 4 at 2");
        x.set(2, 3, 340 - late);
        return x;
    }

    private static void withdrawInThe60th() {
        check.topic("24: makes HURT of all together least ON n SESSIONS");
        check.tells(() -> twoPeers(0), "withdraw(59): 398, 370", 1, x -> x.withdraw(59));
        check.tells(() -> twoPeers(0), "withdraw(60): 200, 370", 0, x -> x.withdraw(60));
        check.tells(() -> twoPeers(1), "withdraw(60): 399, 369", 1, x -> x.withdraw(60));
        check.tells(() -> twoPeers(0), "withdraw(1): 340, 341", 0, x -> x.withdraw(1));
        check.tells(() -> twoPeers(0), "withdraw(2): 342, 341", 1, x -> x.withdraw(2));
        check.topic("24: withdrawn now (FORCE 0)");
        Supplier<HurtSpeech> small = () -> Check.told(
                "delegate;clerk;delegate pride 0;speech 0 0 2 at 1;speech 0 0 2 at 2");
        check.tells(small, "withdraw(2): 2, 1, while a force of 1 would hurt by 1 still", 1, x -> x.withdraw(2));
        check.tells(Scene::full, "withdraw(60), which is of no force more", Scene.full().withdraw(60),
                x -> x.withdraw(60));
    }

    private static HurtSpeech slow(int hurtOfOther) {
        HurtSpeech x = Check.told("delegate;clerk;speech 0 0 2 at 1");
        x.set(0, 3, hurtOfOther);
        return x;
    }

    private static void saddest() {
        check.topic("25: ON n SESSIONS (0 to 200). BEYOND.");
        check.beyond(Scene::busy, "saddest(?)", 0, 200, HurtSpeech::saddest);
        check.topic("25: NONE: nobody is there.");
        check.refused(HurtSpeech::new, "saddest(0)", Check.NONE, x -> x.saddest(0));
        check.refused(HurtSpeech::new, "saddest(200)", Check.NONE, x -> x.saddest(200));
        check.takes(HurtSpeech::new, "saddest(0) of one", 0, x -> x.delegate(0) + x.saddest(0));
        check.topic("25: BEYOND, and NONE behind it");
        check.beyond(HurtSpeech::new, "saddest(?)", 0, 200, HurtSpeech::saddest);
        check.topic("25: Who is HURT most ON n SESSIONS; of several the least");
        check.tells(() -> slow(0), "saddest(0), of two alike", 0, x -> x.saddest(0));
        check.tells(() -> slow(0), "saddest(1)", 1, x -> x.saddest(1));
        check.tells(() -> slow(199), "saddest(199), of two alike", 0, x -> x.saddest(199));
        check.tells(() -> slow(199), "saddest(200)", 1, x -> x.saddest(200));
        check.tells(() -> slow(200), "saddest(200), of two alike", 0, x -> x.saddest(200));
        HurtSpeech x = Scene.full();
        x.set(7, 3, 99999);
        check.due("saddest(200), the last", x.saddest(200), 7);
        x.set(0, 3, 99999);
        x.tell(0, 2, -1);
        check.due("saddest(0), of two alike", x.saddest(0), 0);
    }

    private interface Change {
        void to(HurtSpeech x, int v);
    }

    /** What an answer ought to be, by doing each of what it is chosen of and letting the sessions go. */
    private static int byDoing(int bound, int n, Change change, Bounds.Ask hurt) {
        int best = 0;
        long least = Long.MAX_VALUE;
        for (int v = 0; v < bound; v++) {
            HurtSpeech x = Scene.busy();
            change.to(x, v);
            x.sessions(n);
            if (hurt.of(x) < least) {
                least = hurt.of(x);
                best = v;
            }
        }
        return best;
    }

    private static void asIfDone() {
        check.topic("19 to 24: as if it were done, and the SESSIONS went");
        int[] counts = {1, 2, 3, 4, 5, 7, 14, 30, 58, 59, 60};
        for (int n : counts) {
            HurtSpeech x = Scene.busy();
            for (int s = 0; s < Scene.TALKS; s++) {
                int speech = s;
                check.due("tongue(" + s + ", " + n + ")", x.tongue(s, n),
                        byDoing(4, n, (y, v) -> y.tell(speech, 1, v), y -> y.now(2)));
                check.due("aim(" + s + ", 3, " + n + ")", x.aim(s, 3, n),
                        byDoing(Scene.PEOPLE + 1, n, (y, v) -> y.tell(speech, 2, v - 1), y -> -y.of(3, 3)));
            }
            for (int d = 0; d < Scene.PEOPLE; d++) {
                int one = d;
                check.due("kind(" + d + ", " + n + ")", x.kind(d, n),
                        byDoing(6, n, (y, v) -> y.turn(one, v), y -> y.of(one, 3)));
                check.due("learn(" + d + ", " + n + ")", x.learn(d, n),
                        byDoing(16, n, (y, v) -> y.set(one, 2, v), y -> y.of(one, 3)));
            }
            check.due("withdraw(" + n + ")", x.withdraw(n),
                    byDoing(Scene.TALKS, n, (y, v) -> y.tell(v, 3, 0), y -> y.now(2)));
            x.sessions(n);
            check.due("saddest(" + n + ")", Scene.busy().saddest(n), x.saddest(0));
        }
    }
}
