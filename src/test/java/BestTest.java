/** Promises 19 to 25: tongue, aim, kind, pride, learn, withdraw, saddest. */
public final class BestTest {
    private static final Check check = new Check();

    public static void main(String[] args) {
        tongue();
        aim();
        kind();
        pride();
        learn();
        withdraw();
        saddest();
        nothingChanges();
        check.end();
    }

    private static HurtSpeech three(String tail) {
        return Check.told("delegate;delegate has 0 1;delegate has 0 1;" + tail);
    }

    private static void tongue() {
        check.topic("promise 19");
        HurtSpeech x = Check.told("delegate;delegate pride 5 has 0 3;clerk has 1 2;clerk has 3;speech 0 0 50 at 1");
        check.due("tongue(0, 1): 63, 70, 70, 63", x.tongue(0, 1), 0);
        x.set(1, 2, 8);
        check.due("tongue(0, 1): nobody has 0", x.tongue(0, 1), 0);
        x.set(3, 2, 1);
        check.due("tongue(0, 1): 70, 70, 70, 63", x.tongue(0, 1), 3);
        x.tell(0, 1, 2);
        check.due("tongue(0, 1), whichever it is in", x.tongue(0, 1), 3);
        x.turn(2, 1);
        check.due("tongue(0, 1): a peer in French, nobody in 2", x.tongue(0, 1), 2);
        check.due("tongue(0, 60)", x.tongue(0, 60), 2);
        check.due("tongue(0, 0)", x.tongue(0, 0), Check.BEYOND);
        check.due("tongue(0, 61)", x.tongue(0, 61), Check.BEYOND);
        check.due("tongue(1, 1)", x.tongue(1, 1), Check.BEYOND);
        check.due("tongue(-1, 1)", x.tongue(-1, 1), Check.BEYOND);
        for (int far : Check.FAR) {
            check.due("tongue(" + far + ", 1)", x.tongue(far, 1), Check.BEYOND);
            check.due("tongue(0, " + far + ")", x.tongue(0, far), Check.BEYOND);
        }
    }

    private static void aim() {
        check.topic("promise 20");
        HurtSpeech x = three("speech 0 0 50");
        check.due("aim(0, 1, 1): 0, 9, 45, 9", x.aim(0, 1, 1), 2);
        check.due("aim(0, 2, 1)", x.aim(0, 2, 1), 3);
        check.due("aim(0, 0, 1), by his own he is not hurt", x.aim(0, 0, 1), 0);
        x.turn(2, 3);
        check.due("aim(0, 2, 1): 0, 23, 14, 47", x.aim(0, 2, 1), 3);
        check.due("aim(0, 1, 1): 0, 18, 45, 18", x.aim(0, 1, 1), 2);
        x.set(1, 2, 0);
        x.turn(2, 2);
        x.turn(1, 1);
        check.due("aim(0, 1, 1), whom nothing hurts", x.aim(0, 1, 1), 0);
        check.due("aim(0, 1, 0)", x.aim(0, 1, 0), Check.BEYOND);
        check.due("aim(0, 1, 61)", x.aim(0, 1, 61), Check.BEYOND);
        check.due("aim(0, 3, 1)", x.aim(0, 3, 1), Check.BEYOND);
        check.due("aim(0, -1, 1)", x.aim(0, -1, 1), Check.BEYOND);
        check.due("aim(1, 1, 1)", x.aim(1, 1, 1), Check.BEYOND);
        check.due("aim(-1, 1, 1)", x.aim(-1, 1, 1), Check.BEYOND);
        for (int far : Check.FAR) {
            check.due("aim(" + far + ", 0, 1)", x.aim(far, 0, 1), Check.BEYOND);
            check.due("aim(0, " + far + ", 1)", x.aim(0, far, 1), Check.BEYOND);
            check.due("aim(0, 0, " + far + ")", x.aim(0, 0, far), Check.BEYOND);
        }
        aimAtHimself();
    }

    /** Aimed at its own speaker, a speech of 50 has the exile interpret; at the other, not. */
    private static void aimAtHimself() {
        HurtSpeech x = Check.told("delegate;clerk;exile pride 1;speech 0 0 50 at 0");
        x.turn(0, 3);
        check.due("aim(0, 1, 1): 0, 9, 25, 9", x.aim(0, 1, 1), 2);
        HurtSpeech y = Check.told("exile;peer has 1;delegate;speech 0 1 60 at 2");
        check.due("aim(0, 2, 1): 0, 6, 6, 6", y.aim(0, 2, 1), 3);
        y.turn(2, 1);
        y.set(2, 2, 0);
        y.tell(0, 0, 2);
        check.due("aim(0, 1, 1): 0, 6, 30, 6", y.aim(0, 1, 1), 2);
        HurtSpeech z = Check.told("delegate;delegate;speech 0 0 60 at 1");
        z.set(1, 3, 50);
        check.due("aim(0, 1, 1): 50, 61, 52", z.aim(0, 1, 1), 1);
    }

    private static void kind() {
        check.topic("promise 21");
        HurtSpeech x = three("speech 0 0 50 at 1");
        check.due("kind(1, 1): 45, 0, ..", x.kind(1, 1), 1);
        x.tell(0, 1, 1);
        check.due("kind(1, 1): 45, 25, 25, 47, 24, 25", x.kind(1, 1), 4);
        x.set(1, 1, 0);
        check.due("kind(1, 1): 50, 25, 25, 49, 25, 25", x.kind(1, 1), 1);
        check.due("kind(0, 1), whom nothing hurts", x.kind(0, 1), 0);
        check.due("kind(1, 0)", x.kind(1, 0), Check.BEYOND);
        check.due("kind(1, 61)", x.kind(1, 61), Check.BEYOND);
        check.due("kind(3, 1)", x.kind(3, 1), Check.BEYOND);
        check.due("kind(-1, 1)", x.kind(-1, 1), Check.BEYOND);
        for (int far : Check.FAR) {
            check.due("kind(" + far + ", 1)", x.kind(far, 1), Check.BEYOND);
            check.due("kind(1, " + far + ")", x.kind(1, far), Check.BEYOND);
        }
    }

    private static void pride() {
        check.topic("promise 22");
        HurtSpeech x = three("speech 0 0 50 at 1");
        check.due("pride(1, 1, 55)", x.pride(1, 1, 55), 4);
        check.due("pride(1, 1, 54)", x.pride(1, 1, 54), 5);
        check.due("pride(1, 1, 60)", x.pride(1, 1, 60), 0);
        check.due("pride(1, 1, 99999)", x.pride(1, 1, 99999), 0);
        check.due("pride(1, 1, 36)", x.pride(1, 1, 36), 20);
        check.due("pride(1, 1, 35)", x.pride(1, 1, 35), Check.NONE);
        check.due("pride(2, 1, 54), whose pride is nothing to it", x.pride(2, 1, 54), 0);
        check.due("pride(2, 1, 53)", x.pride(2, 1, 53), Check.NONE);
        check.due("pride(1, 1, 0)", x.pride(1, 1, 0), Check.NONE);
        check.due("pride(1, 0, 0)", x.pride(1, 0, 0), Check.BEYOND);
        check.due("pride(1, 61, 0)", x.pride(1, 61, 0), Check.BEYOND);
        check.due("pride(1, 1, -1)", x.pride(1, 1, -1), Check.BEYOND);
        check.due("pride(1, 1, 100000)", x.pride(1, 1, 100000), Check.BEYOND);
        check.due("pride(3, 1, 0)", x.pride(3, 1, 0), Check.BEYOND);
        check.due("pride(-1, 1, 0)", x.pride(-1, 1, 0), Check.BEYOND);
        for (int far : Check.FAR) {
            check.due("pride(" + far + ", 1, 0)", x.pride(far, 1, 0), Check.BEYOND);
            check.due("pride(1, " + far + ", 0)", x.pride(1, far, 0), Check.BEYOND);
            check.due("pride(1, 1, " + far + ")", x.pride(1, 1, far), Check.BEYOND);
        }
        x.tell(0, 3, 20);
        check.due("pride(1, 60, 0)", x.pride(1, 60, 0), 20);
    }

    private static void learn() {
        check.topic("promise 23");
        HurtSpeech x = three("speech 0 0 50 at 1");
        check.due("learn(1, 1): 45 with each", x.learn(1, 1), 0);
        x.turn(2, 3);
        check.due("learn(1, 1): 90 or 45", x.learn(1, 1), 1);
        x.set(2, 2, 8);
        x.tell(0, 1, 3);
        check.due("learn(1, 1): 90 or 45", x.learn(1, 1), 8);
        x.speech(0, 1, 1, 50);
        check.due("learn(1, 2): in 1 nobody else hears it", x.learn(1, 2), 8);
        x.set(2, 2, 10);
        check.due("learn(1, 2): 90, then 135, weeping 67", x.learn(1, 2), 2);
        x.tell(0, 3, 30);
        x.tell(1, 3, 30);
        check.due("learn(1, 2): 50, 75 with one tongue", x.learn(1, 2), 10);
        x.turn(2, 1);
        check.due("learn(2, 1)", x.learn(2, 1), 0);
        check.due("learn(1, 0)", x.learn(1, 0), Check.BEYOND);
        check.due("learn(1, 61)", x.learn(1, 61), Check.BEYOND);
        check.due("learn(3, 1)", x.learn(3, 1), Check.BEYOND);
        check.due("learn(-1, 1)", x.learn(-1, 1), Check.BEYOND);
        for (int far : Check.FAR) {
            check.due("learn(" + far + ", 1)", x.learn(far, 1), Check.BEYOND);
            check.due("learn(1, " + far + ")", x.learn(1, far), Check.BEYOND);
        }
    }

    private static void withdraw() {
        check.topic("promise 24");
        HurtSpeech x = three("speech 0 0 50 at 1;speech 0 0 80 at 2;speech 0 0 80 at 1");
        check.due("withdraw(1)", x.withdraw(1), 0);
        check.due("withdraw(2)", x.withdraw(2), 1);
        x.sessions(2);
        check.due("withdraw(1)", x.withdraw(1), 2);
        check.due("withdraw(2)", x.withdraw(2), 2);
        x.tell(0, 2, -1);
        x.tell(1, 2, -1);
        x.tell(2, 2, -1);
        check.due("withdraw(60), of several the least", x.withdraw(60), 0);
        check.due("withdraw(0)", x.withdraw(0), Check.BEYOND);
        check.due("withdraw(61)", x.withdraw(61), Check.BEYOND);
        for (int far : Check.FAR) {
            check.due("withdraw(" + far + ")", x.withdraw(far), Check.BEYOND);
        }
        HurtSpeech y = Check.told("delegate");
        check.due("withdraw(60) with none", y.withdraw(60), Check.NONE);
        check.due("withdraw(61) with none", y.withdraw(61), Check.BEYOND);
    }

    private static void saddest() {
        check.topic("promise 25");
        HurtSpeech x = three("speech 0 0 50 at 2");
        check.due("saddest(0), of several the least", x.saddest(0), 0);
        check.due("saddest(1)", x.saddest(1), 2);
        x.set(1, 3, 100);
        check.due("saddest(0)", x.saddest(0), 1);
        check.due("saddest(200): 100 and weeping now and then", x.saddest(200), 1);
        x.set(0, 3, 109);
        check.due("saddest(1): 109, 109, 45", x.saddest(1), 0);
        check.due("saddest(2): 109, 118, 90", x.saddest(2), 1);
        check.due("saddest(-1)", x.saddest(-1), Check.BEYOND);
        check.due("saddest(201)", x.saddest(201), Check.BEYOND);
        for (int far : Check.FAR) {
            check.due("saddest(" + far + ")", x.saddest(far), Check.BEYOND);
        }
        HurtSpeech y = new HurtSpeech();
        check.due("saddest(200) of nobody", y.saddest(200), Check.NONE);
        check.due("saddest(201) of nobody", y.saddest(201), Check.BEYOND);
    }

    private static void nothingChanges() {
        check.topic("promises 19 to 25, nothing changes");
        HurtSpeech x = three("speech 0 1 50 at 1");
        x.tongue(0, 60);
        x.aim(0, 1, 60);
        x.kind(1, 60);
        x.pride(1, 60, 0);
        x.learn(1, 60);
        x.withdraw(60);
        x.saddest(60);
        int[] one = {0, 5, 3, 0, 0, 0};
        int[] held = {0, 1, 1, 50};
        for (int what = 0; what < 6; what++) {
            check.due("of(1, " + what + ")", x.of(1, what), one[what]);
        }
        for (int what = 0; what < 4; what++) {
            check.due("speechOf(0, " + what + ")", x.speechOf(0, what), held[what]);
        }
        check.due("now(0)", x.now(0), 0);
        check.due("status(-1)", x.status(-1), 1);
    }
}
