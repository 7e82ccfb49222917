/** Section 1 of the Terms: each boundary that a sentence of it names, on both sides. */
public final class TermsBoundsTest {
    private static final Bounds check = new Bounds();

    private static final int DELEGATE = 0;
    private static final int PEER = 1;
    private static final int CLERK = 2;
    private static final int EXILE = 3;
    private static final int LORD = 4;
    private static final int SCRIBE = 5;

    /** At whom a speech of 0 is aimed where 1 is looked at. */
    private static final int AT_NOBODY = -1;
    private static final int AT_SPEAKER = 0;
    private static final int AT_HIM = 1;
    private static final int AT_ANOTHER = 2;

    public static void main(String[] args) {
        firstValues();
        losesAsDelegate();
        losesAsPeer();
        losesAsClerk();
        losesAsExile();
        losesAsLord();
        losesAsScribe();
        losesNothing();
        interpreter();
        interpreterOfSeveral();
        rendersAsDelegate();
        rendersAsOthers();
        wouldWeep();
        weepsInterpreting();
        weepsNotOtherwise();
        theSpeechInTurn();
        hurtAtMost();
        weptAtMost();
        halves();
        noSpeeches();
        check.end();
    }

    private static void firstValues() {
        check.topic("SESSION: 0 at first; PRIDE 5 at first, TONGUE 0 at first, HURT 0 at first, WEPT 0 at first");
        check.takes(HurtSpeech::new, "now(0)", 0, x -> x.now(0));
        int[] first = {0, 5, 1, 0, 0, 0};
        for (int kind = 0; kind < 6; kind++) {
            HurtSpeech x = Scene.busy();
            x.delegate(kind);
            for (int what = 1; what <= 4; what++) {
                check.due("of(7, " + what + ") of kind " + kind, x.of(7, what), first[what]);
            }
            check.due("of(7, 0)", x.of(7, 0), kind);
        }
    }

    private static HurtSpeech heard(int kind, int pride, int tongue, int at, int force) {
        HurtSpeech x = new HurtSpeech();
        x.delegate(DELEGATE);
        x.delegate(kind);
        x.delegate(CLERK);
        x.set(1, 1, pride);
        x.set(1, 2, 15);
        x.set(2, 2, 0);
        x.speech(0, tongue, at, force);
        return x;
    }

    private static void loses(int kind, int pride, int tongue, int at, int force, int want) {
        check.due("loses(1, 0), pride " + pride + " tongue " + tongue + " at " + at + " force " + force,
                heard(kind, pride, tongue, at, force).loses(1, 0), want);
    }

    private static void losesAsDelegate() {
        check.topic("LOSES, DELEGATE: f, if it is AIMED at him, else a fifth of f.");
        for (int tongue = 0; tongue < 4; tongue++) {
            loses(DELEGATE, 20, tongue, AT_HIM, 0, 0);
            loses(DELEGATE, 20, tongue, AT_HIM, 1, 1);
            loses(DELEGATE, 20, tongue, AT_HIM, 99, 99);
            loses(DELEGATE, 20, tongue, AT_ANOTHER, 4, 0);
            loses(DELEGATE, 20, tongue, AT_ANOTHER, 5, 1);
            loses(DELEGATE, 20, tongue, AT_ANOTHER, 9, 1);
            loses(DELEGATE, 20, tongue, AT_ANOTHER, 10, 2);
            loses(DELEGATE, 20, tongue, AT_SPEAKER, 99, 19);
        }
    }

    private static void losesAsPeer() {
        check.topic("LOSES, PEER: as DELEGATE, if t is 1, else 0.");
        for (int tongue = 0; tongue < 4; tongue++) {
            int heard = tongue == 1 ? 1 : 0;
            loses(PEER, 20, tongue, AT_HIM, 99, 99 * heard);
            loses(PEER, 20, tongue, AT_HIM, 1, heard);
            loses(PEER, 20, tongue, AT_ANOTHER, 5, heard);
            loses(PEER, 20, tongue, AT_ANOTHER, 4, 0);
        }
    }

    private static void losesAsClerk() {
        check.topic("LOSES, CLERK: half of as DELEGATE.");
        loses(CLERK, 20, 0, AT_HIM, 1, 0);
        loses(CLERK, 20, 0, AT_HIM, 2, 1);
        loses(CLERK, 20, 2, AT_HIM, 3, 1);
        loses(CLERK, 20, 3, AT_HIM, 99, 49);
        loses(CLERK, 20, 0, AT_ANOTHER, 9, 0);
        loses(CLERK, 20, 0, AT_ANOTHER, 10, 1);
        loses(CLERK, 20, 0, AT_ANOTHER, 19, 1);
        loses(CLERK, 20, 0, AT_ANOTHER, 20, 2);
    }

    private static void losesAsExile() {
        check.topic("LOSES, EXILE: as DELEGATE, and PRIDE, if f is above 0.");
        loses(EXILE, 20, 0, AT_HIM, 0, 0);
        loses(EXILE, 20, 0, AT_HIM, 1, 21);
        loses(EXILE, 20, 0, AT_HIM, 99, 119);
        loses(EXILE, 20, 0, AT_ANOTHER, 0, 0);
        loses(EXILE, 20, 0, AT_ANOTHER, 1, 20);
        loses(EXILE, 1, 0, AT_ANOTHER, 5, 2);
        loses(EXILE, 0, 0, AT_ANOTHER, 4, 0);
        loses(EXILE, 0, 0, AT_HIM, 1, 1);
    }

    private static void losesAsLord() {
        check.topic("LOSES, LORD: as PEER, less half of PRIDE (0 at least).");
        loses(LORD, 5, 1, AT_HIM, 1, 0);
        loses(LORD, 5, 1, AT_HIM, 2, 0);
        loses(LORD, 5, 1, AT_HIM, 3, 1);
        loses(LORD, 0, 1, AT_HIM, 1, 1);
        loses(LORD, 1, 1, AT_HIM, 1, 1);
        loses(LORD, 2, 1, AT_HIM, 1, 0);
        loses(LORD, 20, 1, AT_HIM, 9, 0);
        loses(LORD, 20, 1, AT_HIM, 10, 0);
        loses(LORD, 20, 1, AT_HIM, 11, 1);
        loses(LORD, 19, 1, AT_HIM, 10, 1);
        loses(LORD, 20, 1, AT_HIM, 99, 89);
        loses(LORD, 20, 1, AT_ANOTHER, 54, 0);
        loses(LORD, 20, 1, AT_ANOTHER, 55, 1);
        loses(LORD, 20, 1, AT_HIM, 0, 0);
        loses(LORD, 0, 0, AT_HIM, 99, 0);
        loses(LORD, 20, 2, AT_HIM, 99, 0);
        loses(LORD, 20, 3, AT_HIM, 0, 0);
    }

    private static void losesAsScribe() {
        check.topic("LOSES, SCRIBE: as CLERK, and 1, if f is 10 or more.");
        loses(SCRIBE, 20, 0, AT_HIM, 9, 4);
        loses(SCRIBE, 20, 0, AT_HIM, 10, 6);
        loses(SCRIBE, 20, 0, AT_HIM, 99, 50);
        loses(SCRIBE, 20, 0, AT_HIM, 1, 0);
        loses(SCRIBE, 20, 0, AT_HIM, 0, 0);
        loses(SCRIBE, 20, 0, AT_ANOTHER, 9, 0);
        loses(SCRIBE, 20, 0, AT_ANOTHER, 10, 2);
        loses(SCRIBE, 20, 0, AT_ANOTHER, 19, 2);
        loses(SCRIBE, 20, 0, AT_ANOTHER, 20, 3);
    }

    private static void losesNothing() {
        check.topic("LOSES: By his own speech, and by one that is AIMED at nobody: 0.");
        for (int kind = 0; kind < 6; kind++) {
            loses(kind, 20, 1, AT_NOBODY, 99, 0);
            loses(kind, 20, 1, AT_NOBODY, 0, 0);
            HurtSpeech x = heard(kind, 20, 1, AT_HIM, 99);
            x.tell(0, 0, 1);
            check.due("loses(1, 0), his own at himself", x.loses(1, 0), 0);
            x.tell(0, 2, 2);
            check.due("loses(1, 0), his own at another", x.loses(1, 0), 0);
            check.due("loses(2, 0), whom it is aimed at", x.loses(2, 0), 49);
            x.tell(0, 2, -1);
            check.due("loses(2, 0), when it is aimed at nobody", x.loses(2, 0), 0);
        }
    }

    private static void interpreter() {
        check.topic("THE INTERPRETER: nobody (-1), if none LOSES anything.");
        check.due("loses nothing", heard(CLERK, 5, 0, AT_HIM, 1).speechOf(0, 4), -1);
        check.due("loses 1", heard(CLERK, 5, 0, AT_HIM, 2).speechOf(0, 4), 1);
        check.due("force 0", heard(EXILE, 5, 0, AT_HIM, 0).speechOf(0, 4), -1);
        check.due("force 1", heard(EXILE, 5, 0, AT_ANOTHER, 1).speechOf(0, 4), 1);
        check.due("at nobody", heard(EXILE, 5, 0, AT_NOBODY, 99).speechOf(0, 4), -1);
        check.topic("THE INTERPRETER: of those that have its TONGUE");
        for (int tongue = 0; tongue < 4; tongue++) {
            HurtSpeech x = heard(EXILE, 5, tongue, AT_HIM, 50);
            x.set(1, 2, 1 << tongue);
            check.due("speechOf(0, 4), who has " + tongue + " alone", x.speechOf(0, 4), 1);
            x.set(1, 2, 15 - (1 << tongue));
            check.due("speechOf(0, 4), who has all but " + tongue, x.speechOf(0, 4), -1);
            x.set(2, 2, 15);
            check.due("speechOf(0, 4), who loses less but has it", x.speechOf(0, 4), 2);
        }
        check.topic("THE INTERPRETER: but him whose it is");
        HurtSpeech x = heard(EXILE, 20, 0, AT_HIM, 99);
        x.tell(0, 0, 1);
        check.due("speechOf(0, 4)", x.speechOf(0, 4), 0);
        x.set(0, 2, 0);
        check.due("speechOf(0, 4), with none but him", x.speechOf(0, 4), -1);
    }

    private static void interpreterOfSeveral() {
        check.topic("THE INTERPRETER: the one that LOSES most by its FORCE (of several the least)");
        HurtSpeech x = Scene.full();
        for (int d = 0; d < 8; d++) {
            x.turn(d, DELEGATE);
        }
        x.tell(7, 1, 0);
        x.tell(7, 2, 7);
        check.due("speechOf(7, 4), of seven alike", x.speechOf(7, 4), 0);
        x.turn(6, EXILE);
        x.set(6, 1, 0);
        check.due("speechOf(7, 4), an exile without pride is alike", x.speechOf(7, 4), 0);
        x.set(6, 1, 1);
        check.due("speechOf(7, 4), with a pride of 1 he loses 1 more", x.speechOf(7, 4), 6);
        x.turn(0, EXILE);
        x.set(0, 1, 1);
        check.due("speechOf(7, 4), of two alike", x.speechOf(7, 4), 0);
        x.set(0, 1, 0);
        check.due("speechOf(7, 4), of which one loses 1 less", x.speechOf(7, 4), 6);
    }

    private static void renders(int kind, int pride, int force, int want) {
        check.due("renders(1, 0), pride " + pride + " force " + force,
                heard(kind, pride, 0, AT_NOBODY, force).renders(1, 0), want);
    }

    private static void rendersAsDelegate() {
        check.topic("RENDERS, DELEGATE: FORCE less PRIDE (0 at least).");
        renders(DELEGATE, 7, 6, 0);
        renders(DELEGATE, 7, 7, 0);
        renders(DELEGATE, 7, 8, 1);
        renders(DELEGATE, 20, 0, 0);
        renders(DELEGATE, 0, 0, 0);
        renders(DELEGATE, 0, 99, 99);
        renders(DELEGATE, 20, 99, 79);
        check.topic("RENDERS, EXILE: as DELEGATE, twice that (99 at most).");
        renders(EXILE, 7, 6, 0);
        renders(EXILE, 7, 7, 0);
        renders(EXILE, 7, 8, 2);
        renders(EXILE, 0, 49, 98);
        renders(EXILE, 0, 50, 99);
        renders(EXILE, 20, 69, 98);
        renders(EXILE, 20, 70, 99);
        renders(EXILE, 0, 99, 99);
    }

    private static void rendersAsOthers() {
        check.topic("RENDERS, PEER: half of FORCE.");
        renders(PEER, 20, 0, 0);
        renders(PEER, 20, 1, 0);
        renders(PEER, 20, 2, 1);
        renders(PEER, 20, 99, 49);
        check.topic("RENDERS, CLERK: FORCE.");
        renders(CLERK, 20, 0, 0);
        renders(CLERK, 20, 99, 99);
        check.topic("RENDERS, LORD: as PEER, and a fourth of PRIDE.");
        renders(LORD, 3, 1, 0);
        renders(LORD, 4, 1, 1);
        renders(LORD, 7, 2, 2);
        renders(LORD, 8, 2, 3);
        renders(LORD, 19, 99, 53);
        renders(LORD, 20, 99, 54);
        renders(LORD, 20, 0, 5);
        check.topic("RENDERS, SCRIBE: as CLERK, less 1 (0 at least).");
        renders(SCRIBE, 20, 0, 0);
        renders(SCRIBE, 20, 1, 0);
        renders(SCRIBE, 20, 2, 1);
        renders(SCRIBE, 20, 99, 98);
    }

    private static HurtSpeech inSession(int session) {
        HurtSpeech x = new HurtSpeech();
        if (session > 0) {
            x.sessions(session);
        }
        return x;
    }

    private static void would(int kind, int pride, int hurt, int session, int want) {
        HurtSpeech x = inSession(session);
        x.delegate(kind);
        x.set(0, 1, pride);
        x.set(0, 3, hurt);
        check.due("of(0, 5), kind " + kind + " pride " + pride + " hurt " + hurt + " session " + session,
                x.of(0, 5), want);
    }

    private static void wouldWeep() {
        check.topic("WEEPS, DELEGATE: from 100 on. PEER: from 400 on. EXILE: from 40 on.");
        int[][] from = {{DELEGATE, 100}, {PEER, 400}, {EXILE, 40}};
        for (int[] one : from) {
            would(one[0], 20, one[1] - 1, 0, 0);
            would(one[0], 20, one[1], 0, 1);
            would(one[0], 20, one[1] + 1, 0, 1);
            would(one[0], 20, 99999, 0, 1);
            would(one[0], 20, 0, 6, 0);
        }
        check.topic("WEEPS, CLERK: never.");
        for (int session = 0; session <= 7; session++) {
            would(CLERK, 20, 99999, session, 0);
        }
        check.topic("WEEPS, LORD: as PEER, but not with a PRIDE above 10.");
        would(LORD, 10, 399, 0, 0);
        would(LORD, 10, 400, 0, 1);
        would(LORD, 10, 401, 0, 1);
        would(LORD, 10, 99999, 0, 1);
        would(LORD, 11, 400, 0, 0);
        would(LORD, 0, 400, 0, 1);
        would(LORD, 20, 99999, 0, 0);
        check.topic("WEEPS, SCRIBE: as CLERK, but in SESSIONS whose rest by 7 is 6.");
        for (int session = 0; session <= 21; session++) {
            would(SCRIBE, 5, 0, session, session == 6 || session == 13 || session == 20 ? 1 : 0);
            would(SCRIBE, 5, 99999, session, session == 6 || session == 13 || session == 20 ? 1 : 0);
        }
    }

    /** A speech of 10 in French at him, who has pride and hurt, in one session: his HURT and WEPT, FORCE then. */
    private static void goes(int kind, int pride, int hurt, int session, int... want) {
        HurtSpeech x = inSession(session);
        x.delegate(CLERK);
        x.delegate(kind);
        x.set(1, 1, pride);
        x.set(1, 2, 2);
        x.set(1, 3, hurt);
        x.speech(0, 1, 1, 10);
        String call = "kind " + kind + " pride " + pride + " hurt " + hurt + " session " + session;
        check.due("sessions(1), " + call, x.sessions(1), want[0]);
        check.due("of(1, 3), " + call, x.of(1, 3), want[0]);
        check.due("of(1, 4), " + call, x.of(1, 4), want[1]);
        check.due("speechOf(0, 3), " + call, x.speechOf(0, 3), want[2]);
        check.due("now(0), " + call, x.now(0), session + 1);
    }

    private static void weepsInterpreting() {
        check.topic("WEEPS (when he, interpreting, has HURT h then)");
        goes(DELEGATE, 0, 89, 0, 99, 0, 10);
        goes(DELEGATE, 0, 90, 0, 50, 1, 5);
        goes(PEER, 0, 394, 0, 399, 0, 10);
        goes(PEER, 0, 395, 0, 200, 1, 5);
        goes(CLERK, 0, 99999, 6, 99999, 0, 10);
        goes(EXILE, 0, 19, 0, 39, 0, 10);
        goes(EXILE, 0, 20, 0, 20, 1, 5);
        goes(LORD, 10, 397, 0, 399, 0, 10);
        goes(LORD, 10, 398, 0, 200, 1, 5);
        goes(LORD, 10, 399, 0, 200, 1, 5);
        goes(LORD, 11, 398, 0, 400, 0, 10);
        goes(SCRIBE, 0, 0, 5, 4, 0, 10);
        goes(SCRIBE, 0, 0, 6, 2, 1, 5);
        goes(SCRIBE, 0, 0, 7, 4, 0, 10);
        goes(SCRIBE, 0, 0, 12, 4, 0, 10);
        goes(SCRIBE, 0, 0, 13, 2, 1, 5);
        goes(SCRIBE, 0, 0, 14, 4, 0, 10);
    }

    /** 2 is hurt enough, but 1 interprets; then the speech comes over with nothing, and he who interprets weeps. */
    private static void weepsNotOtherwise() {
        check.topic("If THE INTERPRETER WEEPS then");
        HurtSpeech x = Check.told("delegate;delegate pride 0;delegate;speech 0 0 10 at 1");
        x.set(2, 3, 500);
        check.due("sessions(1)", x.sessions(1), 10 + 502);
        check.due("count(3)", x.count(3), 0);
        x.set(1, 1, 20);
        x.set(1, 3, 100);
        check.due("speechOf(0, 5)", x.speechOf(0, 5), 0);
        check.due("sessions(1)", x.sessions(1), 50 + 502);
        check.due("of(1, 4)", x.of(1, 4), 1);
        check.due("speechOf(0, 3)", x.speechOf(0, 3), 5);
        check.topic("With none it hurts nobody.");
        x.set(1, 3, 100);
        x.set(1, 2, 0);
        x.set(2, 2, 0);
        check.due("speechOf(0, 4)", x.speechOf(0, 4), -1);
        check.due("sessions(1)", x.sessions(1), 100 + 502);
        check.due("count(3)", x.count(3), 1);
        check.due("speechOf(0, 3)", x.speechOf(0, 3), 5);
        check.due("now(0)", x.now(0), 3);
    }

    /** Of n speeches each hurts the clerk by another number; they are held in turn, and from the first again. */
    private static void theSpeechInTurn() {
        check.topic("the one whose number is the rest of SESSION by how many they are is held");
        for (int n = 1; n <= 8; n++) {
            HurtSpeech x = Check.told("delegate;clerk");
            for (int s = 0; s < n; s++) {
                x.speech(0, 0, 1, 2 + 2 * s);
            }
            int hurt = 0;
            for (int session = 0; session <= 2 * n; session++) {
                check.due("now(1) of " + n + " in " + session, x.now(1), session % n);
                hurt += 1 + session % n;
                check.due("sessions(1) of " + n + " in " + session, x.sessions(1), hurt);
            }
        }
    }

    private static void hurtAtMost() {
        check.topic("each DELEGATE is HURT by as much more as he LOSES by it (99999 at most)");
        int[][] steps = {{99997, 2, 99998}, {99997, 4, 99999}, {99998, 2, 99999}, {99998, 4, 99999},
            {99999, 2, 99999}, {99999, 99, 99999}};
        for (int[] step : steps) {
            HurtSpeech x = Check.told("delegate;clerk");
            x.speech(0, 0, 1, step[1]);
            x.set(1, 3, step[0]);
            check.due("on(1, 1, 0) from " + step[0] + " by " + step[1], x.on(1, 1, 0), step[2]);
            check.due("sessions(1) from " + step[0] + " by " + step[1], x.sessions(1), step[2]);
        }
    }

    private static void weptAtMost() {
        check.topic("WEPT (how often; 0 at first, held to 999)");
        int[][] steps = {{0, 1}, {997, 998}, {998, 999}, {999, 999}};
        for (int[] step : steps) {
            HurtSpeech x = Check.told("delegate;exile pride 0;speech 0 0 90 at 1");
            x.set(1, 4, step[0]);
            check.due("on(1, 1, 1) from " + step[0], x.on(1, 1, 1), step[1]);
            check.due("sessions(1), then half of 99", x.sessions(1), 49);
            check.due("of(1, 4) from " + step[0], x.of(1, 4), step[1]);
            check.due("speechOf(0, 3), half all the same", x.speechOf(0, 3), 45);
        }
    }

    private static void halves() {
        check.topic("his HURT half of what it is, the FORCE of the speech half of what it is");
        int[][] steps = {{100, 1, 50, 0}, {99, 2, 50, 1}, {99, 3, 51, 1}, {99999, 99, 49999, 49}};
        for (int[] step : steps) {
            HurtSpeech x = Check.told("delegate;delegate pride 0");
            x.speech(0, 0, 1, step[1]);
            x.set(1, 3, step[0]);
            check.due("sessions(1) from " + step[0] + " by " + step[1], x.sessions(1), step[2]);
            check.due("speechOf(0, 3)", x.speechOf(0, 3), step[3]);
        }
        HurtSpeech x = Check.told("delegate;delegate pride 0;speech 0 0 1 at 1");
        x.set(1, 3, 200);
        check.due("sessions(2), in the first of which nothing is left of it", x.sessions(2), 100);
        check.due("of(1, 4)", x.of(1, 4), 1);
    }

    private static void noSpeeches() {
        check.topic("A SESSION goes, if there are SPEECHES");
        HurtSpeech x = Check.told("exile");
        x.set(0, 3, 99999);
        check.due("sessions(100)", x.sessions(100), 99999);
        check.due("of(0, 4)", x.of(0, 4), 0);
        check.topic("SESSION is 1 more.");
        check.due("now(0)", x.now(0), 100);
    }
}
