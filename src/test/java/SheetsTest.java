/** Promises 29 to 34: sheet, write, copy, lays, book, read. */
public final class SheetsTest {
    private static final Check check = new Check();

    public static void main(String[] args) {
        sheet();
        write();
        copy();
        copyOfWhatIsNot();
        lays();
        book();
        read();
        readOfWhatWasBooked();
        check.end();
    }

    private static void sheet() {
        check.topic("promise 29");
        HurtSpeech x = new HurtSpeech();
        int[] bits = {8, 16, 64};
        for (int b : bits) {
            check.due("sheet(0, " + b + ", 40)", x.sheet(0, b, 40), 40);
            check.due("write(0, 39, 1)", x.write(0, 39, 1), 0);
            check.due("sheet(0, " + b + ", 0)", x.sheet(0, b, 0), 0);
            check.due("write(0, 0, 1), of none", x.write(0, 0, 1), Check.BEYOND);
            check.due("sheet(0, " + b + ", 41)", x.sheet(0, b, 41), Check.BEYOND);
            check.due("sheet(0, " + b + ", -1)", x.sheet(0, b, -1), Check.SIZE);
        }
        check.due("sheet(3, 8, 3)", x.sheet(3, 8, 3), 3);
        check.due("write(3, 2, 7)", x.write(3, 2, 7), 0);
        check.due("sheet(3, 8, 41)", x.sheet(3, 8, 41), Check.BEYOND);
        check.due("write(3, 2, 7), as it was", x.write(3, 2, 7), 7);
        check.due("sheet(3, 8, 3)", x.sheet(3, 8, 3), 3);
        check.due("write(3, 2, 7), all 0", x.write(3, 2, 7), 0);
        check.due("sheet(3, 0, -1)", x.sheet(3, 0, -1), Check.SIZE);
        check.due("sheet(3, 0, 41)", x.sheet(3, 0, 41), Check.BEYOND);
        check.due("write(3, 2, 7), as it was", x.write(3, 2, 7), 7);
        check.due("sheet(3, 0, 40)", x.sheet(3, 0, 40), 0);
        check.due("write(3, 2, 7)", x.write(3, 2, 7), Check.MISSING);
        check.due("sheet(3, 64, 3)", x.sheet(3, 64, 3), 3);
        check.due("write(3, 2, 7)", x.write(3, 2, 7), 0);
        int[] wrong = {-1, 1, 7, 9, 15, 32, 63, 128};
        for (int b : wrong) {
            check.due("sheet(0, " + b + ", -1)", x.sheet(0, b, -1), Check.BEYOND);
        }
        check.due("sheet(4, 8, -1)", x.sheet(4, 8, -1), Check.BEYOND);
        check.due("sheet(-1, 8, 1)", x.sheet(-1, 8, 1), Check.BEYOND);
        check.due("sheet(0, 8, most)", x.sheet(0, 8, Integer.MAX_VALUE), Check.BEYOND);
        check.due("sheet(0, 8, least)", x.sheet(0, 8, Integer.MIN_VALUE), Check.SIZE);
        for (int far : Check.FAR) {
            check.due("sheet(" + far + ", 8, 1)", x.sheet(far, 8, 1), Check.BEYOND);
            check.due("sheet(0, " + far + ", 1)", x.sheet(0, far, 1), Check.BEYOND);
        }
    }

    private static void write() {
        check.topic("promise 30");
        HurtSpeech x = new HurtSpeech();
        x.sheet(0, 8, 2);
        x.sheet(1, 16, 2);
        x.sheet(2, 64, 2);
        long[] put = {1, 127, 128, -1, 255, 256, 32767, 32768, 65535, 65536, Long.MAX_VALUE, Long.MIN_VALUE};
        long[] of8 = {1, 127, -128, -1, -1, 0, -1, 0, -1, 0, -1, 0};
        long[] of16 = {1, 127, 128, -1, 255, 256, 32767, -32768, -1, 0, -1, 0};
        for (int i = 0; i < put.length; i++) {
            x.write(0, 1, put[i]);
            x.write(1, 1, put[i]);
            x.write(2, 1, put[i]);
            check.due("write(0, 1, 0) after " + put[i], x.write(0, 1, 0), of8[i]);
            check.due("write(1, 1, 0) after " + put[i], x.write(1, 1, 0), of16[i]);
            check.due("write(2, 1, 0) after " + put[i], x.write(2, 1, 0), put[i]);
        }
        check.due("write(0, 0, 5)", x.write(0, 0, 5), 0);
        check.due("write(0, 0, 6)", x.write(0, 0, 6), 5);
        check.due("write(0, 2, 0)", x.write(0, 2, 0), Check.BEYOND);
        check.due("write(0, -1, 0)", x.write(0, -1, 0), Check.BEYOND);
        check.due("write(3, 0, 0)", x.write(3, 0, 0), Check.MISSING);
        check.due("write(3, -1, 0)", x.write(3, -1, 0), Check.MISSING);
        check.due("write(4, 0, 0)", x.write(4, 0, 0), Check.BEYOND);
        check.due("write(-1, 0, 0)", x.write(-1, 0, 0), Check.BEYOND);
        for (int far : Check.FAR) {
            check.due("write(" + far + ", 0, 0)", x.write(far, 0, 0), Check.BEYOND);
            check.due("write(0, " + far + ", 0)", x.write(0, far, 0), Check.BEYOND);
        }
        check.due("status(5)", x.status(5), 2);
    }

    private static void fill(HurtSpeech x, int s, int... numbers) {
        for (int i = 0; i < numbers.length; i++) {
            x.write(s, i, numbers[i]);
        }
    }

    private static void has(HurtSpeech x, int s, int... numbers) {
        for (int i = 0; i < numbers.length; i++) {
            long was = x.write(s, i, 0);
            check.due("number " + i + " of sheet " + s, was, numbers[i]);
            x.write(s, i, was);
        }
    }

    private static void copy() {
        check.topic("promise 31");
        HurtSpeech x = new HurtSpeech();
        x.sheet(0, 16, 5);
        x.sheet(1, 16, 3);
        fill(x, 0, 1, 2, 3, 4, 5);
        fill(x, 1, 6, 7, 8);
        check.due("copy(0, 3, 1, 1, 2)", x.copy(0, 3, 1, 1, 2), 2);
        has(x, 1, 6, 4, 5);
        has(x, 0, 1, 2, 3, 4, 5);
        check.due("copy(0, 0, 0, 1, 4)", x.copy(0, 0, 0, 1, 4), 4);
        has(x, 0, 1, 1, 2, 3, 4);
        check.due("copy(0, 2, 0, 0, 3)", x.copy(0, 2, 0, 0, 3), 3);
        has(x, 0, 2, 3, 4, 3, 4);
        check.due("copy(0, 5, 1, 3, 0)", x.copy(0, 5, 1, 3, 0), 0);
        check.due("copy(0, 6, 1, 3, 0)", x.copy(0, 6, 1, 3, 0), Check.BEYOND);
        check.due("copy(0, 0, 1, 4, 0)", x.copy(0, 0, 1, 4, 0), Check.BEYOND);
        check.due("copy(0, 0, 1, 0, 4)", x.copy(0, 0, 1, 0, 4), Check.BEYOND);
        check.due("copy(1, 0, 0, 0, 4)", x.copy(1, 0, 0, 0, 4), Check.BEYOND);
        check.due("copy(0, 3, 1, 0, 3)", x.copy(0, 3, 1, 0, 3), Check.BEYOND);
        check.due("copy(0, 0, 1, 1, 3)", x.copy(0, 0, 1, 1, 3), Check.BEYOND);
        check.due("copy(0, -1, 1, 0, 1)", x.copy(0, -1, 1, 0, 1), Check.BEYOND);
        check.due("copy(0, 0, 1, -1, 1)", x.copy(0, 0, 1, -1, 1), Check.BEYOND);
        check.due("copy(0, 0, 1, 0, -1)", x.copy(0, 0, 1, 0, -1), Check.BEYOND);
        for (int far : Check.FAR) {
            check.due("copy(0, " + far + ", 1, 0, 1)", x.copy(0, far, 1, 0, 1), Check.BEYOND);
            check.due("copy(0, 0, 1, " + far + ", 1)", x.copy(0, 0, 1, far, 1), Check.BEYOND);
            check.due("copy(0, 1, 1, 1, " + far + ")", x.copy(0, 1, 1, 1, far), Check.BEYOND);
            check.due("copy(0, far, 1, far, far)", x.copy(0, far, 1, far, far), Check.BEYOND);
        }
        has(x, 0, 2, 3, 4, 3, 4);
        has(x, 1, 6, 4, 5);
    }

    private static void copyOfWhatIsNot() {
        check.topic("promise 31, its findings in their order");
        HurtSpeech x = new HurtSpeech();
        x.sheet(0, 16, 5);
        x.sheet(1, 8, 5);
        x.sheet(2, 64, 5);
        check.due("copy(0, 0, 4, 0, 1)", x.copy(0, 0, 4, 0, 1), Check.BEYOND);
        check.due("copy(-1, 0, 0, 0, 1)", x.copy(-1, 0, 0, 0, 1), Check.BEYOND);
        check.due("copy(3, 0, 4, 0, 1)", x.copy(3, 0, 4, 0, 1), Check.BEYOND);
        check.due("copy(4, 0, 3, 0, 1)", x.copy(4, 0, 3, 0, 1), Check.BEYOND);
        check.due("copy(3, -1, 0, 0, 1)", x.copy(3, -1, 0, 0, 1), Check.MISSING);
        check.due("copy(0, 0, 3, 0, -1)", x.copy(0, 0, 3, 0, -1), Check.MISSING);
        check.due("copy(3, 0, 3, 0, 0)", x.copy(3, 0, 3, 0, 0), Check.MISSING);
        check.due("copy(0, 0, 1, 0, 0)", x.copy(0, 0, 1, 0, 0), Check.KIND);
        check.due("copy(0, 0, 2, -1, 9)", x.copy(0, 0, 2, -1, 9), Check.KIND);
        check.due("copy(1, 0, 2, 0, 1)", x.copy(1, 0, 2, 0, 1), Check.KIND);
        for (int far : Check.FAR) {
            check.due("copy(" + far + ", 0, 0, 0, 0)", x.copy(far, 0, 0, 0, 0), Check.BEYOND);
            check.due("copy(0, 0, " + far + ", 0, 0)", x.copy(0, 0, far, 0, 0), Check.BEYOND);
        }
    }

    private static void lays() {
        check.topic("promise 32");
        HurtSpeech x = Check.told("delegate;speech 0 0 1;speech 0 0 2;speech 0 0 3;speech 0 0 4");
        x.sheet(0, 64, 6);
        x.write(0, 0, 99);
        x.write(0, 1, 100);
        x.write(0, 2, -1);
        x.write(0, 3, 0);
        x.write(0, 4, 5);
        check.due("lays(0)", x.lays(0), 2);
        int[] want = {99, 2, 3, 0};
        for (int s = 0; s < 4; s++) {
            check.due("speechOf(" + s + ", 3)", x.speechOf(s, 3), want[s]);
        }
        x.write(0, 0, 1L << 32);
        x.write(0, 3, 200);
        check.due("lays(0), of numbers too great", x.lays(0), 0);
        check.due("speechOf(0, 3)", x.speechOf(0, 3), 99);
        x.sheet(0, 8, 1);
        x.write(0, 0, 256 + 30);
        check.due("lays(0), of one number", x.lays(0), 1);
        check.due("speechOf(0, 3)", x.speechOf(0, 3), 30);
        x.sheet(0, 8, 0);
        check.due("lays(0), of none", x.lays(0), 0);
        check.due("lays(1)", x.lays(1), Check.MISSING);
        check.due("lays(4)", x.lays(4), Check.BEYOND);
        check.due("lays(-1)", x.lays(-1), Check.BEYOND);
        for (int far : Check.FAR) {
            check.due("lays(" + far + ")", x.lays(far), Check.BEYOND);
        }
    }

    private static void book() {
        check.topic("promise 33");
        HurtSpeech x = Check.told("delegate;delegate;speech 0 0 65 at 1");
        x.sheet(0, 16, 10);
        check.due("book(0, 1)", x.book(0, 1), 10);
        has(x, 0, 0, 60, 60, 87, 57, 68, 79, 90, 50, 53);
        check.due("now(0)", x.now(0), 0);
        check.due("now(3)", x.now(3), 65);
        check.due("book(0, 0)", x.book(0, 0), 10);
        has(x, 0, 0, 0, 0, 0, 0, 0, 0, 0, 0, 0);
        x.turn(1, 2);
        x.sheet(1, 8, 6);
        check.due("book(1, 1)", x.book(1, 1), 6);
        has(x, 1, 0, 32, 64, 96, -128, -96);
        x.set(1, 3, 99999);
        x.sheet(2, 16, 1);
        check.due("book(2, 1)", x.book(2, 1), 1);
        has(x, 2, (short) 99999);
        x.sheet(2, 64, 40);
        check.due("book(2, 1)", x.book(2, 1), 40);
        has(x, 2, 99999, 99999);
        x.sheet(2, 64, 0);
        check.due("book(2, 1)", x.book(2, 1), 0);
        check.due("book(2, 2)", x.book(2, 2), Check.BEYOND);
        check.due("book(2, -1)", x.book(2, -1), Check.BEYOND);
        check.due("book(3, 2)", x.book(3, 2), Check.MISSING);
        check.due("book(4, 0)", x.book(4, 0), Check.BEYOND);
        check.due("book(-1, 0)", x.book(-1, 0), Check.BEYOND);
        for (int far : Check.FAR) {
            check.due("book(" + far + ", 0)", x.book(far, 0), Check.BEYOND);
            check.due("book(0, " + far + ")", x.book(0, far), Check.BEYOND);
        }
    }

    /**
     * Who is hurt by 24 in the first session, at first 0, with pride 5: DELEGATE by FORCE 29 (29 - 5), CLERK by
     * 48 and 49, SCRIBE by 47 and 48 (half of 46 and 47, and 1). EXILE: 2 * (f - 5) + 5 is odd, and weeps from
     * 40 on: 2 * (f - 5) + 5 is 48 or 49: f 27. LORD and PEER: by nothing, for it is not in French.
     */
    private static void read() {
        check.topic("promise 34");
        HurtSpeech x = Check.told("delegate;peer;speech 0 0 65 at 1;speech 0 0 65");
        x.sheet(0, 64, 2);
        x.write(0, 1, 24);
        check.due("read(0, 1, 0)", x.read(0, 1, 0), 6);
        check.due("read(0, 1, 1), which is held later", x.read(0, 1, 1), 0);
        check.due("read(0, 0, 0), his own", x.read(0, 0, 0), 0);
        x.write(0, 1, 0);
        check.due("read(0, 0, 0), with each", x.read(0, 0, 0), 600);
        x.write(0, 0, 1);
        check.due("read(0, 0, 0), which isn't so at first", x.read(0, 0, 0), 0);
        x.sheet(0, 16, 0);
        check.due("read(0, 0, 0), of none", x.read(0, 0, 0), 600);
        check.due("of(1, 0)", x.of(1, 0), 1);
        check.due("speechOf(0, 3)", x.speechOf(0, 3), 65);
        check.due("now(0)", x.now(0), 0);
        check.due("read(0, 2, 0)", x.read(0, 2, 0), Check.BEYOND);
        check.due("read(0, -1, 0)", x.read(0, -1, 0), Check.BEYOND);
        check.due("read(0, 0, 2)", x.read(0, 0, 2), Check.BEYOND);
        check.due("read(0, 0, -1)", x.read(0, 0, -1), Check.BEYOND);
        check.due("read(1, 0, 2)", x.read(1, 0, 2), Check.MISSING);
        check.due("read(4, 0, 0)", x.read(4, 0, 0), Check.BEYOND);
        check.due("read(-1, 0, 0)", x.read(-1, 0, 0), Check.BEYOND);
        for (int far : Check.FAR) {
            check.due("read(" + far + ", 0, 0)", x.read(far, 0, 0), Check.BEYOND);
            check.due("read(0, " + far + ", 0)", x.read(0, far, 0), Check.BEYOND);
            check.due("read(0, 0, " + far + ")", x.read(0, 0, far), Check.BEYOND);
        }
    }

    private static void readOfWhatWasBooked() {
        check.topic("promise 34, what was booked");
        HurtSpeech x = Check.told("delegate;delegate;speech 0 0 65 at 1");
        x.sheet(0, 64, 40);
        x.book(0, 1);
        check.due("read(0, 1, 0), just so", x.read(0, 1, 0), 1);
        x.write(0, 39, 51);
        check.due("read(0, 1, 0), but for the last", x.read(0, 1, 0), 0);
        x.sheet(0, 8, 4);
        x.set(1, 3, 256);
        x.book(0, 1);
        check.due("read(0, 1, 0), cut to 8 bits it is not so", x.read(0, 1, 0), 0);
        x.set(1, 3, 128);
        x.book(0, 1);
        check.due("read(0, 1, 0), nor with a sign", x.read(0, 1, 0), 0);
    }
}
