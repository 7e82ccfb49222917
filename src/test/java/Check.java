/** What the tests share: they say what a call answered and what was due. */
class Check {
    static final int BEYOND = -1000000001;
    static final int FULL = -1000000002;
    static final int KIND = -1000000003;
    static final int NONE = -1000000004;
    static final int STATE = -1000000005;
    static final int MISSING = -1000000006;
    static final int SIZE = -1000000007;

    /** Wrong numbers for nearly everything. */
    static final int[] FAR = {Integer.MIN_VALUE, Integer.MIN_VALUE + 1, -1000, -2, 1000000, Integer.MAX_VALUE - 1,
        Integer.MAX_VALUE};

    private int wrong;
    private int asked;
    private String topic = "";

    void topic(String name) {
        topic = name;
    }

    void due(String call, long got, long want) {
        asked++;
        if (got != want) {
            wrong++;
            System.out.println(topic + ": " + call + " answered " + got + ", due is " + want);
        }
    }

    void holds(String what, boolean so) {
        due(what, so ? 1 : 0, 1);
    }

    void end() {
        System.out.println(asked + " asked, " + wrong + " not as due");
        if (wrong != 0) {
            System.exit(1);
        }
    }

    /** Puts a text on the tape, four bytes a call as long as there are so many. */
    static void type(HurtSpeech x, String text) {
        int i = 0;
        while (i < text.length()) {
            int n = Math.min(4, text.length() - i);
            int bytes = 0;
            for (int k = 0; k < n; k++) {
                bytes = bytes << 8 | text.charAt(i + k) & 255;
            }
            x.feed(bytes, n);
            i += n;
        }
    }

    static int congress(HurtSpeech x, String text) {
        type(x, text);
        return x.congress();
    }

    /** A congress told in a text, which has to be without a fault. */
    static HurtSpeech told(String text) {
        HurtSpeech x = new HurtSpeech();
        int answer = congress(x, text);
        if (answer <= 0) {
            throw new IllegalStateException("a test's own text has a fault: " + text + ": " + answer);
        }
        return x;
    }
}
