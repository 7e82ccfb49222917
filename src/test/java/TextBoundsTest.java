import java.util.function.Supplier;

/** Promises 26 to 28: each boundary that a sentence of them, or of THE TEXT, names, on both sides. */
public final class TextBoundsTest {
    private static final Bounds check = new Bounds();

    public static void main(String[] args) {
        feed();
        feedFull();
        feedBytes();
        wipe();
        tokens();
        otherWords();
        bytesThatBeginNoToken();
        numbers();
        blanks();
        items();
        prides();
        tongues();
        speeches();
        thereByThen();
        theNinth();
        endsTooEarly();
        theFirstFault();
        aFaultChangesNothing();
        check.end();
    }

    /** A tape of so many blanks. */
    private static HurtSpeech with(int bytes) {
        HurtSpeech x = Scene.busy();
        x.wipe();
        Check.type(x, " ".repeat(bytes));
        return x;
    }

    private static void feed() {
        check.topic("26: (n 1 to 4): how many it has. BEYOND: n.");
        for (int n = 1; n <= 4; n++) {
            int bytes = n;
            check.takes(HurtSpeech::new, "feed(0, " + n + ")", n, x -> x.feed(0, bytes));
            check.takes(() -> with(120 - bytes), "feed(0, " + n + "), the last", 120, x -> x.feed(0, bytes));
        }
        check.beyond(Scene::busy, "feed(0, ?)", 1, 4, (x, v) -> x.feed(0, v));
        check.beyond(HurtSpeech::new, "feed(-1, ?)", 1, 4, (x, v) -> x.feed(-1, v));
    }

    private static void feedFull() {
        check.topic("26: FULL. THE TAPE (bytes, at most 120)");
        for (int n = 1; n <= 4; n++) {
            int bytes = n;
            check.refused(() -> with(121 - bytes), "feed(0, " + n + "), one too many", Check.FULL,
                    x -> x.feed(0, bytes));
            check.refused(() -> with(120), "feed(0, " + n + ") behind 120", Check.FULL, x -> x.feed(0, bytes));
            check.refused(Scene::full, "feed(0, " + n + ") of a full one", Check.FULL, x -> x.feed(0, bytes));
        }
        check.takes(() -> with(117), "feed of 4 refused, of 3 taken", 120, x -> 0 * x.feed(0, 4) + x.feed(0, 3));
        check.topic("26: BEYOND, and FULL behind it");
        check.beyond(Scene::full, "feed(0, ?)", 1, 4, (x, v) -> x.feed(0, v));
    }

    private static void feedBytes() {
        check.topic("26: the n lowest bytes of a number behind it, the highest of these first");
        int word = 'p' << 24 | 'e' << 16 | 'e' << 8 | 'r';
        check.takes(HurtSpeech::new, "feed(peer, 4)", 1, x -> 0 * x.feed(word, 4) + x.congress());
        int clerk = 'l' << 24 | 'e' << 16 | 'r' << 8 | 'k';
        check.takes(HurtSpeech::new, "feed(...c, 1), feed(lerk, 4)", 1,
                x -> 0 * (x.feed(-256 | 'c', 1) + x.feed(clerk, 4)) + x.congress());
        int xile = 0xff000000 | 'x' << 16 | 'i' << 8 | 'l';
        check.takes(HurtSpeech::new, "feed(...e, 1), feed(.xil, 3), feed(...e, 1)", 1,
                x -> 0 * (x.feed('e', 1) + x.feed(xile, 3) + x.feed('x' << 8 | 'e', 1)) + x.congress());
        int lord = 'l' << 8 | 'o';
        check.takes(HurtSpeech::new, "feed(..lo, 2), feed(..rd, 2)", 1,
                x -> 0 * (x.feed(lord | 0xabcd0000, 2) + x.feed('r' << 8 | 'd', 2)) + x.congress());
        check.takes(HurtSpeech::new, "feed(-1, 4), bytes of 255", -1, x -> 0 * x.feed(-1, 4) + x.congress());
    }

    private static void wipe() {
        check.topic("27: THE TAPE is empty: how many it had.");
        check.tells(HurtSpeech::new, "wipe() of nothing", 0, HurtSpeech::wipe);
        check.takes(() -> with(1), "wipe()", 1, HurtSpeech::wipe);
        check.takes(Scene::full, "wipe()", 120, HurtSpeech::wipe);
        check.takes(Scene::full, "wipe(), twice", 0, x -> 0 * x.wipe() + x.wipe());
        check.takes(Scene::full, "wipe(), then feed(0, 4)", 4, x -> 0 * x.wipe() + x.feed(0, 4));
        check.takes(Scene::full, "wipe(), then congress()", -1, x -> 0 * x.wipe() + x.congress());
        check.leaves(Scene::busy, "wipe() and the same again", x -> {
            x.wipe();
            Check.type(x, "peer;speech 6 0 9");
            return 0;
        }, x -> 0);
    }

    /** Told to a new object: how many items; then the tape is empty and there was no finding. */
    private static void isText(String text, int items) {
        HurtSpeech x = new HurtSpeech();
        check.due("congress() of '" + text + "'", Check.congress(x, text), items);
        check.due("count(0) and count(1) after '" + text + "'", x.count(0) + x.count(1), items);
        check.due("count(2) after '" + text + "'", x.count(2), 0);
        check.due("status(-1) after '" + text + "'", x.status(-1), 0);
    }

    private static void fault(String text, int place) {
        HurtSpeech x = new HurtSpeech();
        check.due("congress() of '" + text + "'", Check.congress(x, text), -1 - place);
        check.due("count(0) and count(1) after '" + text + "'", x.count(0) + x.count(1), 0);
        check.due("count(2) after '" + text + "'", x.count(2), 0);
        check.due("status(-1) after '" + text + "'", x.status(-1), 0);
    }

    private static void tokens() {
        check.topic("TOKENS, each as long as can be");
        isText("peer pride5has1;clerk;speech1 0 9at0", 3);
        fault("peerpride 5", 0);
        fault("peer pridehas 5", 5);
        fault("peer has 12", 9);
        fault("peer;speech 00 9", 15);
        fault("peer;speech 0 0 9 at0 0", 22);
        check.topic("WORDS (letters a to z)");
        fault("peera", 0);
        fault("peerz", 0);
        fault("peer`", 4);
        fault("peer{", 4);
        fault("peerA", 4);
        fault("peerZ", 4);
        fault("a", 0);
        fault("z", 0);
        fault("Peer", 0);
        fault("pee", 0);
        fault("eer", 0);
        fault("peers", 0);
        check.topic("the name of a KIND (delegate peer clerk exile lord scribe)");
        String[] names = {"delegate", "peer", "clerk", "exile", "lord", "scribe"};
        for (int kind = 0; kind < 6; kind++) {
            HurtSpeech x = new HurtSpeech();
            check.due("congress() of '" + names[kind] + "'", Check.congress(x, names[kind]), 1);
            check.due("of(0, 0) of '" + names[kind] + "'", x.of(0, 0), kind);
            String shorter = names[kind].substring(0, names[kind].length() - 1);
            fault(shorter, 0);
            fault(shorter + "z", 0);
            fault(names[kind] + "s", 0);
        }
    }

    /** Each letter of each word becomes another one, is left out, or is there twice. */
    private static void otherWords() {
        check.topic("FAULT: another WORD");
        String[] ahead = {"", "", "", "", "", "", "lord;", "lord ", "lord ", "lord;speech 0 0 0 "};
        String[] words = {"delegate", "peer", "clerk", "exile", "lord", "scribe", "speech", "pride", "has", "at"};
        String[] behind = {"", "", "", "", "", "", " 0 0 0", " 0", " 0", " 0"};
        for (int i = 0; i < words.length; i++) {
            String word = words[i];
            HurtSpeech x = new HurtSpeech();
            check.holds(word + " is one", Check.congress(x, ahead[i] + word + behind[i]) > 0);
            for (int k = 0; k < word.length(); k++) {
                String first = word.substring(0, k);
                String rest = word.substring(k + 1);
                fault(ahead[i] + first + (char) (word.charAt(k) + 1) + rest + behind[i], ahead[i].length());
                fault(ahead[i] + first + rest + behind[i], ahead[i].length());
                fault(ahead[i] + first + word.charAt(k) + word.charAt(k) + rest + behind[i], ahead[i].length());
            }
        }
    }

    /** Each byte but a letter, a digit, the sign and the blank, told first, behind a word and behind a number. */
    private static void bytesThatBeginNoToken() {
        check.topic("FAULT: a byte that begins no TOKEN");
        for (int b = 0; b < 256; b++) {
            boolean isLetter = b >= 'a' && b <= 'z';
            boolean isDigit = b >= '0' && b <= '9';
            if (b == ' ') {
                isText(" peer", 1);
                isText("peer ", 1);
                isText("peer pride 1 ", 1);
            } else {
                String sign = String.valueOf((char) b);
                fault(sign + " peer", 0);
                fault("peer" + sign, isLetter ? 0 : isDigit ? 4 : b == ';' ? 5 : 4);
                fault("peer " + sign, b == ';' ? 6 : 5);
                fault("peer pride 20" + sign, isDigit ? 11 : b == ';' ? 14 : 13);
            }
        }
    }

    private static void numbers() {
        check.topic("NUMBERS (digits, 999 at most)");
        fault("peer pride 999", 11);
        fault("peer pride 1000", 11);
        fault("peer pride 1020", 11);
        fault("peer pride 65536", 11);
        fault("peer pride 4294967296", 11);
        fault("peer pride 4294967297", 11);
        fault("peer pride 18446744073709551616", 11);
        fault("peer has 1000", 9);
        fault("peer;speech 1000 0 0", 12);
        fault("peer;speech 0 1000 0", 14);
        fault("peer;speech 0 0 1000", 16);
        fault("peer;speech 0 0 0 at 1000", 21);
        fault("peer 999", 5);
        fault("peer 1000", 5);
        isText("peer pride 0", 1);
        isText("peer pride 9", 1);
        isText("peer pride 020", 1);
        isText("peer pride " + "0".repeat(109), 1);
        isText("peer pride " + "0".repeat(107) + "20", 1);
        fault("peer pride " + "0".repeat(107) + "21", 11);
        fault("peer pride -1", 11);
        fault("peer pride +1", 11);
    }

    private static void blanks() {
        check.topic("blanks may stand between");
        isText(" ".repeat(116) + "peer", 1);
        isText("peer" + " ".repeat(116), 1);
        isText("  peer  pride  7  has  1  ;  speech  0  1  5  at  0  ", 2);
        isText("peer;clerk", 2);
        fault("pe er", 0);
        fault("peer pri de 5", 5);
        fault("peer pride 2 0", 13);
    }

    private static void items() {
        check.topic("TEXT: ITEM { ; ITEM }");
        isText("lord", 1);
        isText("lord;".repeat(7) + "lord", 8);
        isText("lord;" + "speech0 0 0;".repeat(7) + "speech 0 0 0", 9);
        HurtSpeech x = Check.told("lord;".repeat(6) + "lord");
        check.due("congress() of nine more", Check.congress(x, "lord;" + "speech7 0 0;".repeat(7) + "speech 7 0 0"), 9);
        fault("", 0);
        fault(";", 0);
        fault(";lord", 0);
        fault("lord;", 5);
        fault("lord;;lord", 5);
        fault("lord lord", 5);
        fault("lord speech 0 0 0", 5);
        fault("lord;speech 0 0 0 lord", 18);
        fault("lord;speech 0 0 0 0", 18);
        fault("lord;7", 5);
        fault("lord;pride 7", 5);
        fault("lord;has 0", 5);
        fault("lord;at 0", 5);
    }

    private static void prides() {
        check.topic("perhaps pride and a NUMBER (0 to 20)");
        int[] taken = {0, 1, 19, 20};
        for (int pride : taken) {
            HurtSpeech x = Check.told("exile pride " + pride);
            check.due("of(0, 1) with pride " + pride, x.of(0, 1), pride);
            check.due("of(0, 2) with pride " + pride, x.of(0, 2), 1);
        }
        check.due("of(0, 1) without", Check.told("exile").of(0, 1), 5);
        fault("exile pride 21", 12);
        fault("exile pride 99", 12);
        fault("exile pride pride 5", 12);
        fault("exile pride 5 pride 5", 14);
        fault("exile has 0 pride 5", 12);
    }

    private static void tongues() {
        check.topic("perhaps has and 1 to 4 NUMBERS (TONGUES, these alone)");
        String[] told = {"0", "1", "2", "3", "0 1", "1 3", "3 1 2", "0 1 2 3", "3 2 1 0", "2 2", "3 3 3 3"};
        int[] sets = {1, 2, 4, 8, 3, 10, 14, 15, 15, 4, 8};
        for (int i = 0; i < told.length; i++) {
            check.due("of(0, 2) with has " + told[i], Check.told("exile has " + told[i]).of(0, 2), sets[i]);
            check.due("of(0, 2) with pride 5 has " + told[i],
                    Check.told("exile pride 5 has " + told[i] + ";peer").of(0, 2), sets[i]);
        }
        check.due("of(0, 2) without", Check.told("exile").of(0, 2), 1);
        fault("exile has", 9);
        fault("exile has;peer", 9);
        fault("exile has 4", 10);
        fault("exile has 3 4", 12);
        fault("exile has 0 1 4", 14);
        fault("exile has 0 1 2 4", 16);
        check.topic("FAULT: a NUMBER that is a fifth of TONGUES");
        isText("exile has 0 1 2 3;peer", 2);
        fault("exile has 0 1 2 3 0", 18);
        fault("exile has 0 1 2 3 4", 18);
        fault("exile has 1 1 1 1 1", 18);
    }

    private static void speeches() {
        check.topic("speech, a NUMBER (BY whom), a NUMBER (the TONGUE), a NUMBER (FORCE, 0 to 99), perhaps at and a NUMBER");
        int[][] taken = {{0, 0, 0, -1}, {1, 3, 99, -1}, {0, 0, 0, 0}, {1, 3, 99, 1}, {1, 2, 1, 0}};
        for (int[] one : taken) {
            String text = "speech " + one[0] + " " + one[1] + " " + one[2] + (one[3] < 0 ? "" : " at " + one[3]);
            HurtSpeech x = Check.told("peer;clerk;" + text);
            int[] want = {one[0], one[1], one[3], one[2]};
            for (int what = 0; what < 4; what++) {
                check.due("speechOf(0, " + what + ") of '" + text + "'", x.speechOf(0, what), want[what]);
            }
        }
        fault("peer;clerk;speech 2 0 0", 18);
        fault("peer;clerk;speech 0 4 0", 20);
        fault("peer;clerk;speech 0 0 100", 22);
        fault("peer;clerk;speech 0 0 0 at 2", 27);
        fault("peer;clerk;speech 0 0 0 at -1", 27);
        fault("peer;clerk;speech at 0", 18);
        fault("peer;clerk;speech 0 at 0", 20);
        fault("peer;clerk;speech 0 0 at 0", 22);
        fault("peer;clerk;speech 0 0 0 at 0 at 1", 29);
        fault("peer;clerk;speech 0 0 0 at 0 1", 29);
        fault("peer;clerk;speech 0 0 0 has 0", 24);
        fault("peer;clerk;speech 0 0 0 pride 0", 24);
    }

    private static void thereByThen() {
        check.topic("one there by then");
        fault("speech 0 0 0", 7);
        fault("speech 0 0 0;peer", 7);
        fault("peer;speech 1 0 0;peer", 12);
        fault("peer;speech 0 0 0 at 1;peer", 21);
        isText("peer;peer;speech 1 0 0", 3);
        isText("peer;speech 0 0 0 at 0;peer;speech 1 0 0 at 1", 4);
        Supplier<HurtSpeech> one = () -> Check.told("lord");
        check.takes(one, "congress() of 'speech 0 0 0 at 0'", 1, x -> Check.congress(x, "speech 0 0 0 at 0"));
        check.takes(one, "congress() of 'speech 1 0 0'", -8, x -> Check.congress(x, "speech 1 0 0"));
        check.takes(one, "congress() of 'peer;speech 1 0 0 at 1'", 2,
                x -> Check.congress(x, "peer;speech 1 0 0 at 1"));
        check.takes(one, "congress() of 'peer;speech 1 0 0 at 2'", -22,
                x -> Check.congress(x, "peer;speech 1 0 0 at 2"));
    }

    /** So many of one kind, and so many speeches, are there. */
    private static HurtSpeech crowd(int people, int talks) {
        HurtSpeech x = new HurtSpeech();
        for (int d = 0; d < people; d++) {
            x.delegate(0);
        }
        for (int s = 0; s < talks; s++) {
            x.speech(0, 0, -1, 0);
        }
        return x;
    }

    private static void theNinth() {
        check.topic("FAULT: the name of a KIND, or speech, for a 9th: its own");
        fault("lord;".repeat(8) + "lord", 40);
        fault("lord;".repeat(8) + "  lord pride 99", 42);
        check.takes(() -> crowd(7, 0), "the eighth", 1, x -> Check.congress(x, " lord"));
        check.takes(() -> crowd(7, 0), "the ninth", -7, x -> Check.congress(x, " lord;lord"));
        check.takes(() -> crowd(8, 0), "the ninth", -2, x -> Check.congress(x, " lord"));
        check.takes(() -> crowd(8, 0), "the ninth of no name", -2, x -> Check.congress(x, " lords"));
        check.takes(() -> crowd(8, 0), "a speech then", 1, x -> Check.congress(x, "speech 7 0 0"));
        check.takes(() -> crowd(1, 7), "the eighth speech", 1, x -> Check.congress(x, " speech 0 0 0"));
        check.takes(() -> crowd(1, 7), "the ninth speech", -14, x -> Check.congress(x, "speech 0 0 0;speech 0 0 0"));
        check.takes(() -> crowd(1, 8), "the ninth speech", -2, x -> Check.congress(x, " speech 9 9 999"));
        check.takes(() -> crowd(1, 8), "one more then", 1, x -> Check.congress(x, "lord"));
        check.takes(Scene::full, "neither", -1, x -> 0 * x.wipe() + Check.congress(x, "lord"));
        check.takes(Scene::full, "neither", -1, x -> 0 * x.wipe() + Check.congress(x, "speech 0 0 0"));
    }

    /**
     * A text cut at each place. By hand: where the rest is a text it has 1 or 2 items; where a word is cut short it
     * is another word, at its first byte; else it ends too early.
     */
    private static void endsTooEarly() {
        check.topic("FAULT: or how many bytes there are if it ends too early");
        String text = "peer pride 7 has 1 ; speech 0 1 5 at 0";
        int[] want = {-1, -1, -1, -1, 1, 1,
            -6, -6, -6, -6, -11, -12, 1, 1,
            -14, -14, -17, -18, 1, 1, -21, -22,
            -22, -22, -22, -22, -22, -28, -29, -30, -31, -32, -33, 2, 2,
            -35, -37, -38, 2};
        for (int length = 0; length <= text.length(); length++) {
            HurtSpeech x = new HurtSpeech();
            String cut = text.substring(0, length);
            check.due("congress() of '" + cut + "'", Check.congress(x, cut), want[length]);
            check.due("count(2)", x.count(2), 0);
        }
        fault(" ".repeat(120), 120);
        fault("peer" + " ".repeat(115) + ";", 120);
        fault("peer" + " ".repeat(115) + "x", 119);
    }

    private static void theFirstFault() {
        check.topic("FAULT: the first TOKEN that can't stand there");
        fault("peer pride 21 !", 11);
        fault("peer ! pride 21", 5);
        fault("! peer", 0);
        fault("peer pride 20 !; peer pride 21", 14);
        fault("peer;speech 9 9 999 at 9", 12);
        fault("peer;speech 0 9 999 at 9", 14);
        fault("peer;speech 0 0 999 at 9", 16);
        fault("peer;speech 0 0 99 at 9", 22);
        fault("peer has 4 5", 9);
        fault("another", 0);
        fault("peer another", 5);
        fault("peer;another", 5);
        fault("peer;speech another", 12);
        check.topic("28: With a FAULT: -1 less its place");
        check.takes(HurtSpeech::new, "place 0", -1, x -> Check.congress(x, "!"));
        check.takes(HurtSpeech::new, "place 119", -120, x -> Check.congress(x, " ".repeat(119) + "!"));
        check.takes(HurtSpeech::new, "place 120", -121, x -> Check.congress(x, " ".repeat(120)));
    }

    private static void aFaultChangesNothing() {
        check.topic("28: nothing changes but that THE TAPE is empty; no finding");
        String[] texts = {"!", ";", "peer;", "lord pride 3 has 1;speech 0 0 9 at 7;!", "lord;lord",
            "lord;speech 7 3 99;scribe", "speech 6 0 9;speech 6 0 9;speech 6 0 9;speech 6 0 9;speech 6 0 9"};
        for (String text : texts) {
            check.leaves(Scene::busy, "congress() of '" + text + "'", x -> {
                x.wipe();
                check.holds("'" + text + "' has a fault", Check.congress(x, text) < 0);
                check.due("status(-1)", x.status(-1), 0);
                return 0;
            }, HurtSpeech::wipe);
        }
        check.leaves(Scene::full, "congress()", HurtSpeech::congress, HurtSpeech::wipe);
        check.topic("28: whose ITEMS come to what there is, and empty then: how many ITEMS");
        check.leaves(Scene::busy, "congress()", x -> {
            check.due("congress()", x.congress(), 2);
            check.due("count(2)", x.count(2), 0);
            return 0;
        }, x -> {
            x.delegate(1);
            x.speech(6, 0, -1, 9);
            return x.wipe();
        });
    }
}
