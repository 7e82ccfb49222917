import java.util.function.Supplier;

/** Promises 29 to 34: each boundary that a sentence of them names, on both sides. */
public final class SheetsBoundsTest {
    private static final Bounds check = new Bounds();
    private static final int LAST = Scene.PEOPLE - 1;
    private static final int LAST_TALK = Scene.TALKS - 1;
    private static final int[] BITS = {8, 16, 64};

    public static void main(String[] args) {
        sheet();
        sheetOfWhatIsNot();
        sheetMissing();
        sheetInOrder();
        write();
        writeBits();
        copy();
        copyOverlapping();
        copyBeyond();
        copyInOrder();
        lays();
        laysSome();
        book();
        bookOnTheWay();
        read();
        readJustSo();
        check.end();
    }

    private static void sheet() {
        check.topic("29: A sheet has n numbers, all 0, of 8, 16 or 64 bits: n.");
        for (int s = 0; s < 4; s++) {
            for (int bits : BITS) {
                int sheet = s;
                String call = "sheet(" + s + ", " + bits + ", ";
                check.takes(Scene::busy, call + "0)", 0, x -> x.sheet(sheet, bits, 0));
                check.takes(Scene::busy, call + "1)", 1, x -> x.sheet(sheet, bits, 1));
                check.takes(Scene::busy, call + "40)", 40, x -> x.sheet(sheet, bits, 40));
                HurtSpeech x = Scene.busy();
                x.sheet(s, bits, 40);
                for (int i = 0; i < 40; i++) {
                    check.due("write(" + s + ", " + i + ", 1)", x.write(s, i, 1), 0);
                }
                check.due("write(" + s + ", 40, 1)", x.write(s, 40, 1), Check.BEYOND);
                x.sheet(s, bits, 40);
                check.due("write(" + s + ", 39, 1), all 0 again", x.write(s, 39, 1), 0);
                x.sheet(s, bits, 0);
                check.due("write(" + s + ", 0, 1), of no number", x.write(s, 0, 1), Check.BEYOND);
            }
        }
    }

    private static void sheetOfWhatIsNot() {
        check.topic("29: BEYOND: no such sheet, other bits.");
        check.beyond(Scene::busy, "sheet(?, 8, 1)", 0, 3, (x, v) -> x.sheet(v, 8, 1));
        check.beyond(Scene::busy, "sheet(?, 0, 0)", 0, 3, (x, v) -> x.sheet(v, 0, 0));
        check.beyond(Scene::busy, "sheet(0, ?, 1)", 0, 64, (x, v) -> x.sheet(0, v, 1));
        for (int bits = 1; bits < 64; bits++) {
            int b = bits;
            if (bits != 8 && bits != 16) {
                check.refused(Scene::busy, "sheet(0, " + bits + ", 1)", Check.BEYOND, x -> x.sheet(0, b, 1));
            }
        }
        check.topic("29: SIZE: n is below 0 (also with bits 0).");
        int[] all = {0, 8, 16, 64};
        int[] below = {-1, -2, -40, Integer.MIN_VALUE};
        for (int bits : all) {
            for (int n : below) {
                String call = "sheet(0, " + bits + ", " + n + ")";
                check.refused(Scene::busy, call, Check.SIZE, x -> x.sheet(0, bits, n));
            }
        }
        check.topic("29: BEYOND: n is above 40 (also with bits 0).");
        int[] above = {41, 42, 1000, Integer.MAX_VALUE};
        for (int bits : all) {
            for (int n : above) {
                String call = "sheet(0, " + bits + ", " + n + ")";
                check.refused(Scene::busy, call, Check.BEYOND, x -> x.sheet(0, bits, n));
            }
        }
    }

    private static void sheetMissing() {
        check.topic("29: bits 0: it is MISSING: (0 if it is MISSING)");
        check.takes(Scene::busy, "sheet(0, 0, 0)", 0, x -> x.sheet(0, 0, 0));
        check.takes(Scene::busy, "sheet(0, 0, 1)", 0, x -> x.sheet(0, 0, 1));
        check.takes(Scene::busy, "sheet(0, 0, 40)", 0, x -> x.sheet(0, 0, 40));
        check.takes(Scene::busy, "sheet(0, 0, 40), then write(0, 0, 1)", Check.MISSING,
                x -> 0 * x.sheet(0, 0, 40) + x.write(0, 0, 1));
        check.tells(Scene::busy, "sheet(3, 0, 40), which is", 0, x -> x.sheet(3, 0, 40));
        check.leaves(Scene::busy, "sheet(3, 0, 0) behind another", x -> x.sheet(3, 8, 7) + x.sheet(3, 0, 7), x -> 0);
        check.takes(Scene::busy, "sheet(0, 0, 5), sheet(0, 16, 5), all 0", 0,
                x -> 0 * (x.sheet(0, 0, 5) + x.sheet(0, 16, 5)) + x.write(0, 4, 1));
    }

    private static void sheetInOrder() {
        check.topic("29: its findings in their order");
        check.refused(Scene::busy, "sheet(4, 8, -1)", Check.BEYOND, x -> x.sheet(4, 8, -1));
        check.refused(Scene::busy, "sheet(-1, 7, -1)", Check.BEYOND, x -> x.sheet(-1, 7, -1));
        check.refused(Scene::busy, "sheet(0, 7, -1)", Check.BEYOND, x -> x.sheet(0, 7, -1));
        check.refused(Scene::busy, "sheet(0, 32, 41)", Check.BEYOND, x -> x.sheet(0, 32, 41));
    }

    private static void write() {
        check.topic("30: BEYOND: no such sheet.");
        check.beyond(Scene::busy, "write(?, 0, 7)", 0, 3, (x, v) -> x.write(v, 0, 7));
        check.beyond(HurtSpeech::new, "write(?, -1, 7)", 0, 3, (x, v) -> x.write(v, -1, 7));
        check.topic("30: MISSING.");
        check.refused(Scene::busy, "write(3, 0, 7)", Check.MISSING, x -> x.write(3, 0, 7));
        check.refused(Scene::busy, "write(3, -1, 7)", Check.MISSING, x -> x.write(3, -1, 7));
        check.refused(Scene::busy, "write(3, 40, 7)", Check.MISSING, x -> x.write(3, 40, 7));
        check.topic("30: BEYOND: no such number.");
        check.takes(Scene::busy, "write(0, 0, 7)", 10, x -> x.write(0, 0, 7));
        check.takes(Scene::busy, "write(0, 4, 7)", 14, x -> x.write(0, 4, 7));
        check.takes(Scene::busy, "write(2, 1, 7)", 1L << 40, x -> x.write(2, 1, 7));
        check.beyond(Scene::busy, "write(0, ?, 7)", 0, 4, (x, v) -> x.write(0, v, 7));
        check.beyond(Scene::busy, "write(1, ?, 7)", 0, 2, (x, v) -> x.write(1, v, 7));
        check.beyond(Scene::busy, "write(2, ?, 7)", 0, 1, (x, v) -> x.write(2, v, 7));
        Supplier<HurtSpeech> empty = () -> {
            HurtSpeech x = new HurtSpeech();
            x.sheet(1, 8, 0);
            return x;
        };
        check.beyond(empty, "write(1, ?, 7), of no number", 0, -1, (x, v) -> x.write(1, v, 7));
        check.tells(Scene::busy, "write(0, 4, what it is)", 14, x -> x.write(0, 4, 14));
    }

    private static long written(int bits, long v) {
        HurtSpeech x = new HurtSpeech();
        x.sheet(0, bits, 3);
        x.write(0, 1, v);
        check.due("write(0, 0, 0), the one ahead", x.write(0, 0, 0), 0);
        check.due("write(0, 2, 0), the one behind", x.write(0, 2, 0), 0);
        return x.write(0, 1, 0);
    }

    private static void writeBits() {
        check.topic("30: becomes v (its lowest bits): what it was");
        long[] of8 = {0, 1, 127, 128, 255, 256, 257, -1, -128, -129, Long.MAX_VALUE, Long.MIN_VALUE};
        long[] want8 = {0, 1, 127, -128, -1, 0, 1, -1, -128, 127, -1, 0};
        for (int i = 0; i < of8.length; i++) {
            check.due("8 bits of " + of8[i], written(8, of8[i]), want8[i]);
        }
        long[] of16 = {0, 1, 255, 32767, 32768, 65535, 65536, 65537, -1, -32768, -32769, Long.MAX_VALUE, Long.MIN_VALUE};
        long[] want16 = {0, 1, 255, 32767, -32768, -1, 0, 1, -1, -32768, 32767, -1, 0};
        for (int i = 0; i < of16.length; i++) {
            check.due("16 bits of " + of16[i], written(16, of16[i]), want16[i]);
        }
        long[] of64 = {0, -1, 1L << 31, 1L << 32, -(1L << 31) - 1, Long.MAX_VALUE, Long.MIN_VALUE, Check.BEYOND};
        for (long v : of64) {
            check.due("64 bits of " + v, written(64, v), v);
        }
        check.topic("30: an answer that is as great as a finding is none");
        HurtSpeech x = new HurtSpeech();
        x.sheet(0, 64, 1);
        x.write(0, 0, Check.SIZE);
        check.due("write(0, 0, 0)", x.write(0, 0, 0), Check.SIZE);
        check.due("status(-1)", x.status(-1), 0);
    }

    private static long numberOf(HurtSpeech x, int s, int i) {
        long was = x.write(s, i, 0);
        x.write(s, i, was);
        return was;
    }

    private static void has(String call, HurtSpeech x, int s, long... want) {
        for (int i = 0; i < want.length; i++) {
            check.due(call + ", number " + i + " of sheet " + s, numberOf(x, s, i), want[i]);
        }
    }

    private static void copied(int s, int from, int t, int to, int n, long... want) {
        HurtSpeech x = Scene.busy();
        String call = "copy(" + s + ", " + from + ", " + t + ", " + to + ", " + n + ")";
        check.due(call, x.copy(s, from, t, to, n), n);
        has(call, x, t, want);
        if (s != t) {
            check.leaves(Scene::busy, call + " leaves the sheet it is from", y -> {
                y.copy(s, from, t, to, n);
                return y.sheet(t, 0, 0);
            }, y -> y.sheet(t, 0, 0));
        }
    }

    private static void copy() {
        check.topic("31: n numbers of a sheet from one on come to another one from one on: n.");
        copied(0, 0, 1, 0, 3, 10, 11, 12);
        copied(0, 2, 1, 0, 3, 12, 13, 14);
        copied(0, 4, 1, 2, 1, 99, 0, 14);
        copied(1, 0, 0, 2, 3, 10, 11, 99, 0, -3);
        copied(1, 2, 0, 0, 1, -3, 11, 12, 13, 14);
        copied(2, 1, 2, 0, 1, 1L << 40, 1L << 40);
        check.tells(Scene::busy, "copy(0, 0, 1, 0, 0)", 0, x -> x.copy(0, 0, 1, 0, 0));
        check.tells(Scene::busy, "copy(0, 5, 1, 3, 0), of none at the end", 0, x -> x.copy(0, 5, 1, 3, 0));
        check.tells(Scene::busy, "copy(0, 0, 0, 0, 5), to itself", 5, x -> x.copy(0, 0, 0, 0, 5));
        HurtSpeech x = new HurtSpeech();
        x.sheet(0, 8, 40);
        x.sheet(3, 8, 40);
        for (int i = 0; i < 40; i++) {
            x.write(0, i, i + 1);
        }
        check.due("copy(0, 0, 3, 0, 40)", x.copy(0, 0, 3, 0, 40), 40);
        for (int i = 0; i < 40; i++) {
            check.due("number " + i, numberOf(x, 3, i), i + 1);
        }
        x.sheet(1, 8, 0);
        check.due("copy(1, 0, 1, 0, 0), of no number", x.copy(1, 0, 1, 0, 0), 0);
        check.due("copy(1, 0, 3, 40, 0)", x.copy(1, 0, 3, 40, 0), 0);
        check.due("copy(1, 0, 3, 0, 1)", x.copy(1, 0, 3, 0, 1), Check.BEYOND);
    }

    private static void copyOverlapping() {
        check.topic("31: (as they all were)");
        copied(0, 0, 0, 1, 4, 10, 10, 11, 12, 13);
        copied(0, 1, 0, 0, 4, 11, 12, 13, 14, 14);
        copied(0, 0, 0, 2, 3, 10, 11, 10, 11, 12);
        copied(0, 2, 0, 0, 3, 12, 13, 14, 13, 14);
        copied(0, 0, 0, 4, 1, 10, 11, 12, 13, 10);
    }

    private static void copyRefused(int finding, int s, int from, int t, int to, int n) {
        check.refused(Scene::busy, "copy(" + s + ", " + from + ", " + t + ", " + to + ", " + n + ")", finding,
                x -> x.copy(s, from, t, to, n));
    }

    private static void copyBeyond() {
        check.topic("31: BEYOND: one has not so many, or from, to or n is below 0.");
        copyRefused(Check.BEYOND, 0, 0, 1, 0, 4);
        copyRefused(Check.BEYOND, 1, 0, 0, 0, 4);
        copyRefused(Check.BEYOND, 0, 3, 1, 0, 3);
        copyRefused(Check.BEYOND, 0, 0, 1, 1, 3);
        copyRefused(Check.BEYOND, 0, 0, 0, 0, 6);
        copyRefused(Check.BEYOND, 0, 6, 1, 0, 0);
        copyRefused(Check.BEYOND, 0, 0, 1, 4, 0);
        copyRefused(Check.BEYOND, 0, -1, 1, 0, 0);
        copyRefused(Check.BEYOND, 0, 0, 1, -1, 0);
        copyRefused(Check.BEYOND, 0, 0, 1, 0, -1);
        copyRefused(Check.BEYOND, 0, -1, 1, 0, 1);
        copyRefused(Check.BEYOND, 0, 1, 1, 1, -1);
        check.beyond(Scene::busy, "copy(0, ?, 1, 0, 3)", 0, 2, (x, v) -> x.copy(0, v, 1, 0, 3));
        check.beyond(Scene::busy, "copy(0, ?, 1, 0, 0)", 0, 5, (x, v) -> x.copy(0, v, 1, 0, 0));
        check.beyond(Scene::busy, "copy(0, 0, 1, ?, 2)", 0, 1, (x, v) -> x.copy(0, 0, 1, v, 2));
        check.beyond(Scene::busy, "copy(0, 0, 1, ?, 0)", 0, 3, (x, v) -> x.copy(0, 0, 1, v, 0));
        check.beyond(Scene::busy, "copy(0, 0, 1, 0, ?)", 0, 3, (x, v) -> x.copy(0, 0, 1, 0, v));
        check.beyond(Scene::busy, "copy(0, 5, 1, 3, ?)", 0, 0, (x, v) -> x.copy(0, 5, 1, 3, v));
        copyRefused(Check.BEYOND, 0, Integer.MAX_VALUE, 1, 0, 1);
        copyRefused(Check.BEYOND, 0, Integer.MAX_VALUE, 1, Integer.MAX_VALUE, Integer.MAX_VALUE);
        copyRefused(Check.BEYOND, 0, Integer.MIN_VALUE, 1, 0, Integer.MAX_VALUE);
        copyRefused(Check.BEYOND, 0, Integer.MIN_VALUE, 1, Integer.MIN_VALUE, Integer.MIN_VALUE);
    }

    private static void copyInOrder() {
        check.topic("31: BEYOND: no such sheet (either).");
        check.beyond(Scene::busy, "copy(?, 0, 0, 0, 1)", 0, 3, (x, v) -> x.copy(v, 0, 0, 0, 1));
        check.beyond(Scene::busy, "copy(0, 0, ?, 0, 1)", 0, 3, (x, v) -> x.copy(0, 0, v, 0, 1));
        check.topic("31: BEYOND, and MISSING behind it");
        check.beyond(Scene::busy, "copy(?, 0, 3, 0, 1)", 0, 3, (x, v) -> x.copy(v, 0, 3, 0, 1));
        check.beyond(Scene::busy, "copy(3, 0, ?, 0, 1)", 0, 3, (x, v) -> x.copy(3, 0, v, 0, 1));
        check.topic("31: MISSING: one is.");
        copyRefused(Check.MISSING, 3, 0, 0, 0, 0);
        copyRefused(Check.MISSING, 0, 0, 3, 0, 0);
        copyRefused(Check.MISSING, 3, 0, 3, 0, 0);
        check.topic("31: MISSING, and KIND and BEYOND behind it");
        copyRefused(Check.MISSING, 3, -1, 2, 0, 0);
        copyRefused(Check.MISSING, 2, 0, 3, 0, 41);
        check.topic("31: KIND: they are not of as many bits.");
        copyRefused(Check.KIND, 0, 0, 2, 0, 1);
        copyRefused(Check.KIND, 2, 0, 0, 0, 1);
        copyRefused(Check.KIND, 0, 0, 2, 0, 0);
        check.topic("31: KIND, and BEYOND behind it");
        copyRefused(Check.KIND, 0, -1, 2, 0, 1);
        copyRefused(Check.KIND, 0, 0, 2, 9, 1);
        copyRefused(Check.KIND, 2, 0, 1, 0, -1);
        for (int bits : BITS) {
            for (int other : BITS) {
                HurtSpeech x = new HurtSpeech();
                x.sheet(0, bits, 1);
                x.sheet(1, other, 1);
                check.due("copy of " + bits + " bits to " + other, x.copy(0, 0, 1, 0, 1),
                        bits == other ? 1 : Check.KIND);
            }
        }
    }

    private static void lays() {
        check.topic("32: BEYOND: no such sheet. MISSING.");
        check.beyond(Scene::busy, "lays(?)", 0, 3, HurtSpeech::lays);
        check.refused(Scene::busy, "lays(3)", Check.MISSING, x -> x.lays(3));
        check.beyond(HurtSpeech::new, "lays(?)", 0, 3, HurtSpeech::lays);
        check.topic("32: Numbers of a sheet become FORCE of speeches 0, 1, ..: how many came.");
        check.takes(Scene::busy, "lays(0), of five numbers for four", 4, x -> x.lays(0));
        check.takes(Scene::busy, "lays(1), of 99, 0 and -3", 2, x -> x.lays(1));
        check.takes(Scene::busy, "lays(2), of 0 and 1 << 40", 1, x -> x.lays(2));
        check.leaves(Scene::busy, "lays(0)", x -> x.lays(0), x -> {
            for (int s = 0; s < 4; s++) {
                x.tell(s, 3, 10 + s);
            }
            return 0;
        });
        check.leaves(Scene::busy, "lays(1)", x -> x.lays(1), x -> x.tell(0, 3, 99) + x.tell(1, 3, 0));
    }

    private static HurtSpeech talking(int talks, int bits, long... numbers) {
        HurtSpeech x = Check.told("delegate");
        for (int s = 0; s < talks; s++) {
            x.speech(0, 0, -1, 50 + s);
        }
        x.sheet(0, bits, numbers.length);
        for (int i = 0; i < numbers.length; i++) {
            x.write(0, i, numbers[i]);
        }
        return x;
    }

    private static void laysSome() {
        check.topic("32: those that aren't 0 to 99, or stand for none, are left out");
        long[] numbers = {-1, 0, 1, 98, 99, 100, Long.MAX_VALUE, Long.MIN_VALUE};
        long[] want = {50, 0, 1, 98, 99, 55, 56, 57};
        HurtSpeech x = talking(8, 64, numbers);
        check.due("lays(0)", x.lays(0), 4);
        for (int s = 0; s < 8; s++) {
            check.due("speechOf(" + s + ", 3)", x.speechOf(s, 3), want[s]);
        }
        long[] wide = {1L << 32, (1L << 32) + 7, -(1L << 32) + 7, 1L << 63 | 7};
        check.tells(() -> talking(4, 64, wide), "lays(0), whose lowest bits alone would do", 0, y -> y.lays(0));
        check.takes(() -> talking(4, 8, 99, 100, 127, 128), "lays(0) of 8 bits", 1, y -> y.lays(0));
        check.takes(() -> talking(4, 8, 256, 256 + 99, 256 + 100, 255), "lays(0) of 8 bits", 2, y -> y.lays(0));
        check.takes(() -> talking(2, 16, 65536, 65535), "lays(0) of 16 bits", 1, y -> y.lays(0));
        check.tells(() -> talking(0, 16, 1, 2, 3), "lays(0), for no speech", 0, y -> y.lays(0));
        check.tells(() -> talking(4, 16), "lays(0), of no number", 0, y -> y.lays(0));
        check.takes(() -> talking(8, 16, 5), "lays(0), of one number", 1, y -> y.lays(0));
        check.takes(() -> talking(1, 16, 5, 6), "lays(0), for one speech", 1, y -> y.lays(0));
        check.takes(() -> talking(8, 8, new long[40]), "lays(0), of forty", 8, y -> y.lays(0));
    }

    private static void book() {
        check.topic("33: BEYOND: no such sheet.");
        check.beyond(Scene::busy, "book(?, 0)", 0, 3, (x, v) -> x.book(v, 0));
        check.beyond(HurtSpeech::new, "book(?, 0)", 0, 3, (x, v) -> x.book(v, 0));
        check.topic("33: MISSING.");
        check.refused(Scene::busy, "book(3, 0)", Check.MISSING, x -> x.book(3, 0));
        check.refused(Scene::busy, "book(3, 7)", Check.MISSING, x -> x.book(3, 7));
        check.refused(Scene::busy, "book(3, -1)", Check.MISSING, x -> x.book(3, -1));
        check.topic("33: BEYOND: delegate.");
        check.beyond(Scene::busy, "book(0, ?)", 0, LAST, (x, v) -> x.book(0, v));
        check.takes(Scene::busy, "book(0, 0)", 5, x -> x.book(0, 0));
        check.takes(Scene::busy, "book(0, 6)", 5, x -> x.book(0, LAST));
        check.topic("33: as many as it has numbers: how many");
        Supplier<HurtSpeech> empty = () -> {
            HurtSpeech x = Scene.busy();
            x.sheet(3, 8, 0);
            return x;
        };
        check.tells(empty, "book(3, 3), of no number", 0, x -> x.book(3, 3));
        check.beyond(empty, "book(3, ?), of no number", 0, LAST, (x, v) -> x.book(3, v));
        check.leaves(Scene::busy, "book(0, 3), but for the sheet", x -> x.book(0, 3) + x.sheet(0, 0, 0),
                x -> x.sheet(0, 0, 0));
    }

    private static void bookOnTheWay() {
        check.topic("33: HURT of one ON 0, 1, 2, .. SESSIONS comes to a sheet");
        for (int bits : BITS) {
            for (int d = 0; d < Scene.PEOPLE; d++) {
                HurtSpeech x = Scene.busy();
                x.sheet(3, bits, 40);
                check.due("book(3, " + d + ")", x.book(3, d), 40);
                for (int i = 0; i < 40; i++) {
                    int hurt = x.on(d, i, 0);
                    long cut = bits == 8 ? (byte) hurt : bits == 16 ? (short) hurt : hurt;
                    check.due("number " + i + " of " + bits + " bits", x.write(3, i, 0), cut);
                }
            }
        }
        check.topic("33: numbers of 8, 16 or 64 bits");
        int[] hurts = {127, 128, 255, 256, 32767, 32768, 65535, 65536, 99999};
        for (int hurt : hurts) {
            HurtSpeech x = Check.told("clerk");
            x.set(0, 3, hurt);
            x.sheet(0, 8, 1);
            x.sheet(1, 16, 1);
            x.sheet(2, 64, 1);
            check.due("book(0, 0) and so on", x.book(0, 0) + x.book(1, 0) + x.book(2, 0), 3);
            check.due("8 bits of " + hurt, x.write(0, 0, 0), (byte) hurt);
            check.due("16 bits of " + hurt, x.write(1, 0, 0), (short) hurt);
            check.due("64 bits of " + hurt, x.write(2, 0, 0), hurt);
        }
    }

    private static void read() {
        check.topic("34: BEYOND: no such sheet.");
        check.beyond(Scene::busy, "read(?, 0, 0)", 0, 3, (x, v) -> x.read(v, 0, 0));
        check.beyond(HurtSpeech::new, "read(?, 0, 0)", 0, 3, (x, v) -> x.read(v, 0, 0));
        check.topic("34: MISSING.");
        check.refused(Scene::busy, "read(3, 0, 0)", Check.MISSING, x -> x.read(3, 0, 0));
        check.refused(Scene::busy, "read(3, 7, 0)", Check.MISSING, x -> x.read(3, 7, 0));
        check.refused(Scene::busy, "read(3, 0, 4)", Check.MISSING, x -> x.read(3, 0, 4));
        check.topic("34: BEYOND: delegate, speech.");
        check.beyond(Scene::busy, "read(0, ?, 0)", 0, LAST, (x, v) -> x.read(0, v, 0));
        check.beyond(Scene::busy, "read(0, 0, ?)", 0, LAST_TALK, (x, v) -> x.read(0, 0, v));
        Supplier<HurtSpeech> empty = () -> {
            HurtSpeech x = Scene.busy();
            x.sheet(3, 8, 0);
            return x;
        };
        check.beyond(empty, "read(3, ?, 0), of no number", 0, LAST, (x, v) -> x.read(3, v, 0));
        check.beyond(empty, "read(3, 0, ?), of no number", 0, LAST_TALK, (x, v) -> x.read(3, 0, v));
        check.topic("34: how many pairs of a KIND of him and a FORCE (0 to 99) of a speech make it just so");
        check.tells(empty, "read(3, 6, 3), of no number", 600, x -> x.read(3, LAST, LAST_TALK));
        check.tells(empty, "read(3, 0, 0), of no number", 600, x -> x.read(3, 0, 0));
        check.tells(Scene::busy, "read(1, 3, 0)", 0, x -> x.read(1, 3, 0));
    }

    /** A clerk (it does not matter as what) with HURT 5, at whom the speech is aimed; the sheet has the numbers. */
    private static HurtSpeech hearing(int bits, long... numbers) {
        HurtSpeech x = Check.told("delegate;clerk pride 0;speech 0 0 50 at 1");
        x.set(1, 3, 5);
        x.sheet(0, bits, numbers.length);
        for (int i = 0; i < numbers.length; i++) {
            x.write(0, i, numbers[i]);
        }
        return x;
    }

    /**
     * One session on, with pride 0 and not in French, by hand.
     * Not hurt: PEER and LORD by each force (200), the other four by force 0 (4), CLERK and SCRIBE by force 1, by
     * which they lose nothing (2), SCRIBE by force 2, which he renders as 1 (1).
     * From 5 to 54: DELEGATE by 49 (1), CLERK by 98 and 99 (2), SCRIBE by 97 and 98 (2).
     * From 5 to 52: DELEGATE by 47, and by 99, weeping (2), CLERK by 94 and 95 (2), SCRIBE by 93 and 94 (2), EXILE by
     * 50 to 99, which he renders as 99, weeping (50).
     */
    private static void readJustSo() {
        check.topic("34: numbers of a sheet are HURT of one ON 0, 1, 2, .. SESSIONS");
        check.tells(() -> hearing(64, 5), "read(0, 1, 0), as it is", 600, x -> x.read(0, 1, 0));
        check.tells(() -> hearing(64, 4), "read(0, 1, 0), as it is not", 0, x -> x.read(0, 1, 0));
        check.tells(() -> hearing(64, 6), "read(0, 1, 0), as it is not", 0, x -> x.read(0, 1, 0));
        check.tells(() -> hearing(64, 5, 5), "read(0, 1, 0), not hurt", 200 + 4 + 2 + 1, x -> x.read(0, 1, 0));
        check.tells(() -> hearing(64, 5, 54), "read(0, 1, 0), to 54", 1 + 2 + 2, x -> x.read(0, 1, 0));
        check.tells(() -> hearing(64, 5, 52), "read(0, 1, 0), to 52", 2 + 2 + 2 + 50, x -> x.read(0, 1, 0));
        check.tells(() -> hearing(64, 5, 5 + (1L << 32)), "read(0, 1, 0), too great", 0, x -> x.read(0, 1, 0));
        check.tells(() -> hearing(64, 5 + (1L << 32)), "read(0, 1, 0), too great", 0, x -> x.read(0, 1, 0));
        check.tells(() -> hearing(8, 261), "read(0, 1, 0), cut to 5", 600, x -> x.read(0, 1, 0));
        Supplier<HurtSpeech> great = () -> {
            HurtSpeech x = hearing(8, 0);
            x.set(1, 3, 261);
            x.book(0, 1);
            return x;
        };
        check.tells(great, "read(0, 1, 0), of 261 cut to 5", 0, x -> x.read(0, 1, 0));
        Supplier<HurtSpeech> booked = () -> {
            HurtSpeech x = hearing(64, new long[40]);
            x.turn(1, 0);
            x.book(0, 1);
            return x;
        };
        check.tells(booked, "read(0, 1, 0), as it was booked", 1, x -> x.read(0, 1, 0));
        check.takes(booked, "read(0, 1, 0), but for the last number", 0,
                x -> 0 * x.write(0, 39, x.on(1, 39, 0) + 1) + x.read(0, 1, 0));
        check.takes(booked, "read(0, 1, 0), but for the first number", 0,
                x -> 0 * x.write(0, 0, 6) + x.read(0, 1, 0));
    }
}
