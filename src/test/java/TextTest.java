/** Promises 26 to 28: feed, wipe, congress. */
public final class TextTest {
    private static final Check check = new Check();

    public static void main(String[] args) {
        feed();
        wipe();
        congress();
        wordsAndBlanks();
        faults();
        faultsOfNumbers();
        faultsOfTheNinth();
        aFaultChangesNothing();
        check.end();
    }

    private static void feed() {
        check.topic("promise 26");
        HurtSpeech x = new HurtSpeech();
        check.due("feed(0, 0)", x.feed(0, 0), Check.BEYOND);
        check.due("feed(0, 5)", x.feed(0, 5), Check.BEYOND);
        check.due("feed(0, -1)", x.feed(0, -1), Check.BEYOND);
        for (int far : Check.FAR) {
            check.due("feed(0, " + far + ")", x.feed(0, far), Check.BEYOND);
        }
        check.due("count(2)", x.count(2), 0);
        check.due("feed(?lor, 3)", x.feed('?' << 24 | 'l' << 16 | 'o' << 8 | 'r', 3), 3);
        check.due("feed(???d, 1)", x.feed(-256 | 'd', 1), 4);
        check.due("feed(; p, 4)", x.feed(' ' << 24 | ';' << 16 | ' ' << 8 | 'p', 4), 8);
        check.due("feed(ee, 2)", x.feed('e' << 8 | 'e', 2), 10);
        check.due("feed(r, 1)", x.feed('r', 1), 11);
        check.due("count(2)", x.count(2), 11);
        check.due("congress()", x.congress(), 2);
        check.due("of(0, 0)", x.of(0, 0), 4);
        check.due("of(1, 0)", x.of(1, 0), 1);
        feedTooMuch();
    }

    private static void feedTooMuch() {
        HurtSpeech x = new HurtSpeech();
        for (int i = 1; i <= 29; i++) {
            check.due("feed(blanks, 4)", x.feed(0x20202020, 4), 4 * i);
        }
        check.due("feed(blanks, 2)", x.feed(0x2020, 2), 118);
        check.due("feed(blanks, 3)", x.feed(0x202020, 3), Check.FULL);
        check.due("count(2)", x.count(2), 118);
        check.due("feed(blanks, 2)", x.feed(0x2020, 2), 120);
        check.due("feed(blanks, 1)", x.feed(0x20, 1), Check.FULL);
        check.due("feed(blanks, 5)", x.feed(0x20, 5), Check.BEYOND);
        check.due("congress()", x.congress(), -121);
        check.due("count(2)", x.count(2), 0);
        Check.type(x, "a".repeat(120));
        check.due("congress() of a long word", x.congress(), -1);
        Check.type(x, "delegate;speech 0 0 " + "9".repeat(100));
        check.due("congress() of a long number", x.congress(), -21);
        Check.type(x, "peer;".repeat(7) + "clerk" + " ".repeat(80));
        check.due("count(2)", x.count(2), 120);
        check.due("congress() of a full tape", x.congress(), 8);
        check.due("count(0)", x.count(0), 8);
    }

    private static void wipe() {
        check.topic("promise 27");
        HurtSpeech x = new HurtSpeech();
        check.due("wipe()", x.wipe(), 0);
        Check.type(x, "delegate;");
        check.due("wipe()", x.wipe(), 9);
        check.due("count(2)", x.count(2), 0);
        check.due("wipe()", x.wipe(), 0);
        check.due("congress() then", Check.congress(x, "peer"), 1);
        check.due("of(0, 0)", x.of(0, 0), 1);
    }

    private static void congress() {
        check.topic("promise 28");
        HurtSpeech x = new HurtSpeech();
        x.delegate(2);
        x.set(0, 3, 9);
        check.due("congress()", Check.congress(x,
                "delegate;peer pride 0;clerk has 3;exile pride 20 has 0 1 2 3;lord has 2 2;scribe"), 6);
        int[][] want = {{2, 5, 1, 9}, {0, 5, 1, 0}, {1, 0, 1, 0}, {2, 5, 8, 0}, {3, 20, 15, 0}, {4, 5, 4, 0},
            {5, 5, 1, 0}};
        check.due("count(0)", x.count(0), 7);
        for (int d = 0; d < 7; d++) {
            for (int what = 0; what < 4; what++) {
                check.due("of(" + d + ", " + what + ")", x.of(d, what), want[d][what]);
            }
            check.due("of(" + d + ", 4)", x.of(d, 4), 0);
        }
        check.due("congress()", Check.congress(x, "speech 6 3 99 at 7"), -18);
        check.due("congress()", Check.congress(x, "speech 6 3 99 at 6;clerk;speech 7 0 0 at 7;speech 0 1 5"), 4);
        int[][] held = {{6, 3, 6, 99}, {7, 0, 7, 0}, {0, 1, -1, 5}};
        check.due("count(1)", x.count(1), 3);
        for (int s = 0; s < 3; s++) {
            for (int what = 0; what < 4; what++) {
                check.due("speechOf(" + s + ", " + what + ")", x.speechOf(s, what), held[s][what]);
            }
        }
        check.due("count(2)", x.count(2), 0);
    }

    private static void answers(String text, int want) {
        HurtSpeech x = new HurtSpeech();
        check.due("congress() of '" + text + "'", Check.congress(x, text), want);
        check.due("count(2) then", x.count(2), 0);
        if (want < 0) {
            check.due("count(0) then", x.count(0), 0);
            check.due("count(1) then", x.count(1), 0);
        }
        check.due("status(-1) then", x.status(-1), 0);
    }

    private static void fault(String text, int place) {
        answers(text, -1 - place);
    }

    private static void wordsAndBlanks() {
        check.topic("promise 28, tokens");
        answers("delegate", 1);
        answers("  delegate  ;  peer  ", 2);
        answers("delegatepride", -1);
        answers("delegate pride5has0", 1);
        answers("delegate pride 5has 0 1;speech 0 3 99at0", 2);
        answers("delegate;speech 0 0 5at 0;speech0 0 5", 3);
        answers("delegate pride 007 has 003", 1);
        answers("delegate pride 0000000000000000000020", 1);
        fault("del egate", 0);
        fault("delegates", 0);
        fault("Delegate", 0);
        fault("delegatE", 0);
        fault("delegate\tpride 5", 8);
        fault("delegate\npeer", 8);
        fault("delegate\0", 8);
        fault("delegate;\u00e9", 9);
        fault("delegate,peer", 8);
        fault("delegate pride -1", 15);
    }

    private static void faults() {
        check.topic("promise 28, faults");
        fault("", 0);
        fault("   ", 3);
        fault(";", 0);
        fault(" ;delegate", 1);
        fault("delegate;", 9);
        fault("delegate; ", 10);
        fault("delegate;;peer", 9);
        fault("delegate peer", 9);
        fault("delegate 5", 9);
        fault("5", 0);
        fault("pride", 0);
        fault("has", 0);
        fault("at", 0);
        fault("delegate pride", 14);
        fault("delegate pride ", 15);
        fault("delegate pride ;", 15);
        fault("delegate pride has 0", 15);
        fault("delegate pride 5 5", 17);
        fault("delegate pride 5 pride 5", 17);
        fault("delegate has", 12);
        fault("delegate has ;peer", 13);
        fault("delegate has pride 5", 13);
        fault("delegate has 0 pride 5", 15);
        fault("delegate has 0 has 1", 15);
        fault("delegate has 0 1 2 3 0", 21);
        fault("delegate has 0 0 0 0 0", 21);
        fault("delegate at 0", 9);
        fault("delegate;speech", 15);
        fault("delegate;speech 0", 17);
        fault("delegate;speech 0 0", 19);
        fault("delegate;speech 0;0", 17);
        fault("delegate;speech 0 0 5 5", 22);
        fault("delegate;speech 0 0 5 at", 24);
        fault("delegate;speech 0 0 5 at at", 25);
        fault("delegate;speech 0 0 5 at 0 0", 27);
        fault("delegate;speech 0 0 5 at 0 at 0", 27);
        fault("delegate;speech 0 0 5 pride 5", 22);
        fault("delegate;speech at 0", 16);
        fault("delegate;speech 0 0 at 0", 20);
    }

    private static void faultsOfNumbers() {
        check.topic("promise 28, numbers");
        fault("delegate pride 21", 15);
        fault("delegate pride 999", 15);
        fault("delegate pride 1000", 15);
        fault("delegate pride 4294967296", 15);
        fault("delegate pride 4294967301 !", 15);
        fault("delegate has 4", 13);
        fault("delegate has 0 1 4", 17);
        fault("delegate has 4294967296", 13);
        fault("speech 0 0 0", 7);
        fault("speech 0 0 0;delegate", 7);
        fault("delegate;speech 1 0 0;delegate", 16);
        fault("delegate;speech 0 4 0", 18);
        fault("delegate;speech 0 0 100", 20);
        fault("delegate;speech 0 0 0 at 1;delegate", 25);
        answers("delegate;speech 0 3 99 at 0", 2);
        answers("delegate pride 20;delegate pride 0", 2);
    }

    private static void faultsOfTheNinth() {
        check.topic("promise 28, the ninth");
        HurtSpeech x = new HurtSpeech();
        check.due("congress()", Check.congress(x, "lord;".repeat(8) + "lord"), -41);
        check.due("congress()", Check.congress(x, "lord;".repeat(8) + " lord x"), -42);
        check.due("congress()", Check.congress(x, "lord;".repeat(8) + "lords"), -41);
        check.due("count(0)", x.count(0), 0);
        check.due("congress()", Check.congress(x, "lord;".repeat(7) + "lord"), 8);
        check.due("congress()", Check.congress(x, "lord"), -1);
        check.due("congress()", Check.congress(x, "speech 0 0 0;" + "speech0 0 0;".repeat(6) + "speech 7 0 1;lord"), -99);
        check.due("congress()", Check.congress(x, "speech 0 0 0;" + "speech0 0 0;".repeat(6) + "speech 7 0 1"), 8);
        check.due("congress()", Check.congress(x, " speech 9"), -2);
        check.due("speechOf(7, 0)", x.speechOf(7, 0), 7);
    }

    private static void aFaultChangesNothing() {
        check.topic("promise 28, nothing changes");
        HurtSpeech x = Check.told("peer has 1;delegate pride 7;speech 0 0 50 at 1");
        check.due("congress()", Check.congress(x, "clerk;speech 2 0 7 at 0;scribe pride 21"), -38);
        check.due("count(0)", x.count(0), 2);
        check.due("count(1)", x.count(1), 1);
        check.due("delegate(0)", x.delegate(0), 2);
        check.due("of(2, 1)", x.of(2, 1), 5);
        check.due("of(2, 2)", x.of(2, 2), 1);
        check.due("congress()", Check.congress(x, "clerk;speech 3 0 7 at 0"), 2);
        check.due("of(3, 0)", x.of(3, 0), 2);
        check.due("status(-1)", x.status(-1), 0);
    }
}
