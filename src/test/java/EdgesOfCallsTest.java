import java.util.NoSuchElementException;

/**
 * The sentences of the promises 1 to 19 that name an edge: a test of its own for each. A call that is refused must
 * leave everything as it was, which is looked at in two scenes: a busy house, and one whose row is full.
 */
public final class EdgesOfCallsTest extends Scenes {
    private static final int[] NO_WHATS_OF_FOUR = {-1, 4, 5, 256, Integer.MIN_VALUE, Integer.MAX_VALUE};
    private static final int[] NO_WHATS_OF_SIX = {-1, 6, 7, 256, Integer.MIN_VALUE, Integer.MAX_VALUE};

    private interface OfOne {
        void call(LogHouse x, int argument);
    }

    public static void main(String[] args) {
        newObject();
        byteIn();
        campaign();
        propose();
        resend();
        deliverAndDrop();
        twin();
        lettersAndLetter();
        up();
        wipe();
        catchUp();
        decided();
        read();
        readByte();
        state();
        station();
        share();
        Check.end("EdgesOfCallsTest");
    }

    /** The call is refused for each of these arguments, in a busy house and in one whose row is full. */
    private static void dueRefusedOf(String call, Class<? extends RuntimeException> want, int[] wrong, OfOne made) {
        for (int argument : wrong) {
            String name = call + " of " + argument;
            dueRefused(name, want, Scenes::busy, x -> made.call(x, argument));
            dueRefused(name + ", the row full", want, Scenes::busyAndFull, x -> made.call(x, argument));
        }
    }

    private static void dueArgumentOf(String call, int[] wrong, OfOne made) {
        dueRefusedOf(call, IllegalArgumentException.class, wrong, made);
    }

    /** The call is refused for each index that no letter has: in a busy house, a full row, and an empty one. */
    private static void dueNoLetter(String call, OfOne made) {
        Class<? extends RuntimeException> want = IndexOutOfBoundsException.class;
        for (int i : new int[] {-1, 12, 13, 60, Integer.MIN_VALUE, Integer.MAX_VALUE}) {
            dueRefused(call + " of letter " + i + " among 12", want, Scenes::busy, x -> made.call(x, i));
        }
        for (int i : new int[] {-1, 60, 61, 64, 256, Integer.MIN_VALUE, Integer.MAX_VALUE}) {
            dueRefused(call + " of letter " + i + " among 60", want, Scenes::busyAndFull, x -> made.call(x, i));
        }
        for (int i : new int[] {-1, 0, 1, 60}) {
            dueRefused(call + " of letter " + i + " among none", want, LogHouse::new, x -> made.call(x, i));
        }
    }

    // ---- promise 1

    private static void newObject() {
        Check.sentence("1: All stations empty and up", EdgesOfCallsTest::newStations);
        Check.sentence("1: proposers IDLE", EdgesOfCallsTest::newProposers);
        Check.sentence("1: no letters", EdgesOfCallsTest::newRow);
        Check.sentence("1: a new object beside a used one", EdgesOfCallsTest::newBesideUsed);
    }

    private static void newStations() {
        LogHouse x = new LogHouse();
        for (int s = 0; s < 7; s++) {
            dueStation(x, s, 0, 0, 1, 0);
            for (int place = 0; place < 8; place++) {
                dueShare(x, s, place, -1, -1, -1, -1);
            }
        }
    }

    private static void newProposers() {
        LogHouse x = new LogHouse();
        for (int p = 0; p < 2; p++) {
            dueState(x, p, 0, 0, -1, 0);
            for (int place = 0; place < 8; place++) {
                Check.due("decided(" + p + ", " + place + ")", 0, x.decided(p, place));
            }
        }
        Check.dueIndex("readByte(0): nothing was read", () -> x.readByte(0));
    }

    private static void newRow() {
        LogHouse x = new LogHouse();
        Check.due("letters()", 0, x.letters());
        Check.dueIndex("letter(0, 0)", () -> x.letter(0, 0));
    }

    private static void newBesideUsed() {
        LogHouse used = busyAndFull();
        LogHouse x = new LogHouse();
        Check.due("letters()", 0, x.letters());
        dueState(x, 0, 0, 0, -1, 0);
        dueStation(x, 4, 0, 0, 1, 0);
        dueShare(x, 0, 0, -1, -1, -1, -1);
        Check.due("letters() of the used one", 60, used.letters());
    }

    // ---- promise 2

    private static void byteIn() {
        Check.sentence("2: n (1 .. 4)", EdgesOfCallsTest::byteInEachN);
        Check.sentence("2: lowest bytes of word, the highest first", EdgesOfCallsTest::byteInSigns);
        Check.sentence("2: false, and nothing comes, for other n", EdgesOfCallsTest::byteInOtherN);
        Check.sentence("2: false for more than 24 bytes: to the brim", EdgesOfCallsTest::byteInToTheBrim);
        Check.sentence("2: false, and nothing comes, for more than 24 bytes", EdgesOfCallsTest::byteInTooMany);
        Check.sentence("2: false, and nothing comes, for no such proposer", EdgesOfCallsTest::byteInNoProposer);
        Check.sentence("2: to the report that a proposer writes", EdgesOfCallsTest::byteInOfEachProposer);
    }

    /** The report written is what is read after it has been proposed and decided. */
    private static void dueWritten(LogHouse x, int proposer, int... bytes) {
        x.campaign(proposer);
        deliverAll(x);
        int place = x.propose(proposer);
        deliverAll(x);
        dueRead(x, proposer, place, bytes);
    }

    private static void byteInEachN() {
        int[][] lowest = {{0xDD}, {0xCC, 0xDD}, {0xBB, 0xCC, 0xDD}, {0xAA, 0xBB, 0xCC, 0xDD}};
        for (int n = 1; n <= 4; n++) {
            LogHouse x = new LogHouse();
            Check.due("byteIn(0, 0xAABBCCDD, " + n + ")", true, x.byteIn(0, 0xAABBCCDD, n));
            dueWritten(x, 0, lowest[n - 1]);
        }
    }

    private static void byteInSigns() {
        LogHouse x = new LogHouse();
        x.byteIn(1, -1, 1);
        x.byteIn(1, Integer.MIN_VALUE, 4);
        x.byteIn(1, Integer.MAX_VALUE, 4);
        x.byteIn(1, 0x80, 2);
        x.byteIn(1, 0, 1);
        dueWritten(x, 1, 255, 128, 0, 0, 0, 127, 255, 255, 255, 0, 128, 0);
    }

    private static void byteInOtherN() {
        int[] others = {0, 5, 8, -1, -4, 256, 257, Integer.MIN_VALUE, Integer.MIN_VALUE + 1, Integer.MAX_VALUE};
        for (int n : others) {
            String call = "byteIn(0, 7, " + n + ")";
            dueUntouched(call, Scenes::busy, x -> Check.due(call, false, x.byteIn(0, 7, n)));
            dueUntouched(call, LogHouse::new, x -> Check.due(call, false, x.byteIn(0, 7, n)));
        }
    }

    private static void byteInToTheBrim() {
        for (int n = 1; n <= 4; n++) {
            LogHouse x = new LogHouse();
            int[] bytes = counted(24, 60);
            for (int k = 0; k < 24 - n; k++) {
                write(x, 0, bytes[k]);
            }
            for (int k = 24 - n; k < 24; k++) {
                bytes[k] = k - 19;
            }
            Check.due("byteIn of the last " + n, true, x.byteIn(0, 0x01020304, n));
            Check.due("byteIn of a 25th", false, x.byteIn(0, 9, 1));
            dueWritten(x, 0, bytes);
        }
    }

    private static void byteInTooMany() {
        for (int n = 1; n <= 4; n++) {
            int[] bytes = counted(25 - n, 60);
            LogHouse x = new LogHouse();
            write(x, 1, bytes);
            Check.due("byteIn of " + n + " behind " + bytes.length, false, x.byteIn(1, 0x01020304, n));
            dueWritten(x, 1, bytes);
        }
        LogHouse y = new LogHouse();
        write(y, 0, counted(23, 1));
        Check.due("byteIn of 4 behind 23", false, y.byteIn(0, 9, 4));
        Check.due("byteIn of 2 behind 23", false, y.byteIn(0, 9, 2));
        Check.due("byteIn of 1 behind 23", true, y.byteIn(0, 1 + 37 * 23, 1));
        dueWritten(y, 0, counted(24, 1));
    }

    private static void byteInNoProposer() {
        for (int p : NO_PROPOSERS) {
            String call = "byteIn(" + p + ", 7, 1)";
            dueUntouched(call, Scenes::busy, x -> Check.due(call, false, x.byteIn(p, 7, 1)));
        }
        LogHouse x = new LogHouse();
        Check.due("byteIn(2, 7, 5)", false, x.byteIn(2, 7, 5));
        Check.due("byteIn(-1, 7, 0)", false, x.byteIn(-1, 7, 0));
    }

    private static void byteInOfEachProposer() {
        LogHouse x = new LogHouse();
        write(x, 0, counted(24, 5));
        write(x, 1, 1, 2);
        dueWritten(x, 1, 1, 2);
        dueWritten(x, 0, counted(24, 5));
        write(x, 0, 8);
        dueWritten(x, 0, 8);
    }

    // ---- promise 3

    private static void campaign() {
        Check.sentence("3: above its last one", EdgesOfCallsTest::campaignAboveItsLast);
        Check.sentence("3: above all stations' promised ballots", EdgesOfCallsTest::campaignAboveEachStation);
        Check.sentence("3: the least one: just above a promised one", EdgesOfCallsTest::campaignLeast);
        Check.sentence("3: promised ballots as they are now", EdgesOfCallsTest::campaignAsTheyAreNow);
        Check.sentence("3: was not decided is forgotten", EdgesOfCallsTest::campaignForgets);
        Check.sentence("3: what was decided is not forgotten", EdgesOfCallsTest::campaignKeepsDecided);
        Check.sentence("3: what was written is not forgotten", EdgesOfCallsTest::campaignKeepsWritten);
        Check.sentence("3: It is CAMPAIGNING: again", EdgesOfCallsTest::campaignAgain);
        Check.sentence("3: PREPARE goes to all stations", EdgesOfCallsTest::campaignToAll);
        Check.sentence("3: Answers the ballot: the row full", EdgesOfCallsTest::campaignInFullRow);
        Check.sentence("3: IllegalArgumentException if there is no such proposer",
                () -> dueArgumentOf("campaign", NO_PROPOSERS, LogHouse::campaign));
    }

    private static void campaignAboveItsLast() {
        LogHouse x = new LogHouse();
        for (int r = 1; r <= 20; r++) {
            Check.due("campaign(0)", 2 * r, x.campaign(0));
            Check.due("campaign(1)", 2 * r + 1, x.campaign(1));
        }
    }

    private static void campaignAboveEachStation() {
        for (int s = 0; s < 7; s++) {
            LogHouse x = new LogHouse();
            x.campaign(1);
            x.campaign(1);
            x.deliver(7 + s);
            Check.due("campaign(0) above 5 of station " + s, 6, x.campaign(0));
            LogHouse y = new LogHouse();
            y.campaign(1);
            y.campaign(1);
            y.deliver(7 + s);
            y.up(s, false);
            Check.due("campaign(0) above 5 of station " + s + " that is down", 6, y.campaign(0));
        }
    }

    private static void campaignLeast() {
        LogHouse x = new LogHouse();
        x.campaign(0);
        x.deliver(0);
        Check.due("campaign(1) above 2", 3, x.campaign(1));
        LogHouse y = new LogHouse();
        y.campaign(1);
        y.deliver(0);
        Check.due("campaign(0) above 3", 4, y.campaign(0));
        LogHouse z = new LogHouse();
        z.campaign(0);
        z.deliver(0);
        Check.due("campaign(0) above 2", 4, z.campaign(0));
        z.deliver(12);
        Check.due("campaign(1) above 4", 5, z.campaign(1));
    }

    private static void campaignAsTheyAreNow() {
        LogHouse x = new LogHouse();
        x.campaign(1);
        x.campaign(1);
        Check.due("campaign(0): nothing is promised yet", 2, x.campaign(0));
        LogHouse y = new LogHouse();
        y.campaign(1);
        y.campaign(1);
        y.deliver(7);
        y.wipe(0);
        Check.due("campaign(0): what was promised is lost", 2, y.campaign(0));
    }

    private static void campaignForgets() {
        LogHouse x = led(0);
        write(x, 0, 1, 2, 3, 4);
        x.propose(0);
        dropAll(x);
        x.campaign(0);
        Check.due("state(0, 2)", -1, x.state(0, 2));
        deliverAll(x);
        dueState(x, 0, 2, 4, 0, 5);
        Check.due("resend(0): nothing is proposed", 0, x.resend(0));
        Check.dueState("propose(0): nothing is written", () -> x.propose(0));
        write(x, 0, 8);
        Check.due("propose(0): the place is free again", 0, x.propose(0));
        deliverAll(x);
        Check.due("decided(0, 0)", 4, x.decided(0, 0));
        dueRead(x, 0, 0, 8);
    }

    private static void campaignKeepsDecided() {
        LogHouse x = settled(1, 2);
        x.campaign(0);
        Check.due("decided(0, 0)", 2, x.decided(0, 0));
        deliverAll(x);
        dueState(x, 0, 2, 4, 1, 5);
        dueRead(x, 0, 0, 1, 2);
    }

    private static void campaignKeepsWritten() {
        LogHouse x = led(0);
        write(x, 0, 1, 2);
        x.campaign(0);
        write(x, 0, 3);
        dueWritten(x, 0, 1, 2, 3);
    }

    private static void campaignAgain() {
        LogHouse x = new LogHouse();
        x.campaign(0);
        deliverFirst(x, 7);
        deliverFirst(x, 4);
        dueState(x, 0, 1, 2, -1, 4);
        x.campaign(0);
        dueState(x, 0, 1, 4, -1, 0);
        deliverAll(x);
        dueState(x, 0, 2, 4, 0, 5);
        x.campaign(0);
        dueState(x, 0, 1, 6, -1, 0);
    }

    private static void campaignToAll() {
        LogHouse x = new LogHouse();
        x.up(0, false);
        x.wipe(6);
        x.campaign(0);
        Check.due("letters(): to those down and wiped too", 7, x.letters());
        for (int s = 0; s < 7; s++) {
            dueLetter(x, s, 0, s, 0, 2, -1, -1);
        }
    }

    private static void campaignInFullRow() {
        LogHouse x = busyAndFull();
        Check.due("campaign(0)", 4, x.campaign(0));
        dueState(x, 0, 1, 4, -1, 0);
        Check.due("letters()", 60, x.letters());
    }

    // ---- promise 4

    private static void propose() {
        Check.sentence("4: at the first FREE place: which", EdgesOfCallsTest::proposeInEachPlace);
        Check.sentence("4: at the first FREE place: a gap", EdgesOfCallsTest::proposeInGap);
        Check.sentence("4: ACCEPT goes to all stations", EdgesOfCallsTest::proposeToAll);
        Check.sentence("4: nothing is written then", EdgesOfCallsTest::proposeEmptiesReport);
        Check.sentence("4: IllegalArgumentException if there is no such proposer",
                () -> dueArgumentOf("propose", NO_PROPOSERS, LogHouse::propose));
        Check.sentence("4: IllegalStateException if it is not LEADING: IDLE", EdgesOfCallsTest::proposeIdle);
        Check.sentence("4: IllegalStateException if it is not LEADING: CAMPAIGNING",
                () -> dueRefused("propose(1)", IllegalStateException.class, Scenes::busy, x -> x.propose(1)));
        Check.sentence("4: IllegalStateException if nothing is written", EdgesOfCallsTest::proposeNothing);
        Check.sentence("4: IllegalStateException if no place is free: proposed", EdgesOfCallsTest::proposeAllProposed);
        Check.sentence("4: IllegalStateException if no place is free: decided", EdgesOfCallsTest::proposeAllDecided);
    }

    private static void proposeInEachPlace() {
        LogHouse x = led(1);
        for (int place = 0; place < 8; place++) {
            write(x, 1, place);
            Check.due("propose(1)", place, x.propose(1));
            dueLetter(x, 0, 2, 0, 1, 3, place, 3);
            if (place % 2 == 0) {
                deliverAll(x);
            } else {
                dropAll(x);
            }
        }
    }

    private static void proposeInGap() {
        LogHouse x = led(0);
        for (int place = 0; place < 3; place++) {
            write(x, 0, place);
            x.propose(0);
            if (place == 1) {
                dropAll(x);
            } else {
                deliverAll(x);
            }
        }
        x.campaign(0);
        deliverAll(x);
        Check.due("state(0, 2)", 1, x.state(0, 2));
        write(x, 0, 9);
        Check.due("propose(0): between two that are decided", 1, x.propose(0));
        Check.due("state(0, 2)", 3, x.state(0, 2));
        write(x, 0, 9);
        Check.due("propose(0): behind all", 3, x.propose(0));
    }

    private static void proposeToAll() {
        LogHouse x = led(0);
        x.up(0, false);
        x.wipe(6);
        write(x, 0, 1);
        x.propose(0);
        Check.due("letters(): to those down and wiped too", 7, x.letters());
        for (int s = 0; s < 7; s++) {
            dueLetter(x, s, 2, s, 0, 2, 0, 2);
        }
    }

    private static void proposeEmptiesReport() {
        LogHouse x = led(0);
        write(x, 0, counted(24, 3));
        write(x, 1, 1);
        x.propose(0);
        Check.dueState("propose(0) once more", () -> x.propose(0));
        write(x, 0, counted(24, 4));
        x.propose(0);
        deliverAll(x);
        dueRead(x, 0, 0, counted(24, 3));
        dueRead(x, 0, 1, counted(24, 4));
        dueWritten(x, 1, 1);
    }

    private static LogHouse idleWithReport() {
        LogHouse x = new LogHouse();
        write(x, 0, 7);
        return x;
    }

    private static void proposeIdle() {
        Class<? extends RuntimeException> want = IllegalStateException.class;
        dueRefused("propose(0)", want, EdgesOfCallsTest::idleWithReport, x -> x.propose(0));
        dueRefused("propose(1): nothing is written either", want, EdgesOfCallsTest::idleWithReport, x -> x.propose(1));
    }

    private static void proposeNothing() {
        dueRefused("propose(0)", IllegalStateException.class, () -> settled(1, 2), x -> x.propose(0));
        LogHouse y = led(0);
        y.byteIn(0, 1, 5);
        Check.dueState("propose(0): what was refused is not written", () -> y.propose(0));
    }

    private static LogHouse allProposed() {
        LogHouse x = led(0);
        for (int place = 0; place < 8; place++) {
            write(x, 0, place);
            x.propose(0);
            dropAll(x);
        }
        write(x, 0, 99, 98);
        return x;
    }

    private static void proposeAllProposed() {
        Class<? extends RuntimeException> want = IllegalStateException.class;
        dueRefused("propose(0) a ninth time", want, EdgesOfCallsTest::allProposed, x -> x.propose(0));
        LogHouse x = allProposed();
        Check.dueState("propose(0)", () -> x.propose(0));
        dueWritten(x, 0, 99, 98);
    }

    private static void proposeAllDecided() {
        LogHouse x = led(0);
        for (int place = 0; place < 8; place++) {
            write(x, 0, place);
            x.propose(0);
            deliverFirst(x, 7);
            deliverFirst(x, 5);
            dropAll(x);
        }
        write(x, 0, 9);
        Check.due("state(0, 2)", -1, x.state(0, 2));
        Check.dueState("propose(0) a ninth time", () -> x.propose(0));
        x.campaign(0);
        deliverFirst(x, 7);
        deliverFirst(x, 7);
        Check.dueState("propose(0) with another ballot", () -> x.propose(0));
    }

    // ---- promise 5

    private static void resend() {
        Check.sentence("5: What still waits for an answer: nothing, IDLE", EdgesOfCallsTest::resendIdle);
        Check.sentence("5: whose promise it has not (CAMPAIGNING)", EdgesOfCallsTest::resendPrepares);
        Check.sentence("5: that have not answered (LEADING)", EdgesOfCallsTest::resendAccepts);
        Check.sentence("5: ACCEPT of each place that is proposed and not decided", EdgesOfCallsTest::resendPlaces);
        Check.sentence("5: how many letters came into the row: little room", EdgesOfCallsTest::resendLittleRoom);
        Check.sentence("5: how many letters came into the row: no room", EdgesOfCallsTest::resendNoRoom);
        Check.sentence("5: IllegalArgumentException if there is no such proposer",
                () -> dueArgumentOf("resend", NO_PROPOSERS, LogHouse::resend));
    }

    private static void resendIdle() {
        dueUntouched("resend(0)", EdgesOfCallsTest::idleWithReport, x -> Check.due("resend(0)", 0, x.resend(0)));
        dueUntouched("resend(0) LEADING, nothing proposed", () -> settled(1),
                x -> Check.due("resend(0)", 0, x.resend(0)));
    }

    private static void resendPrepares() {
        LogHouse x = new LogHouse();
        x.campaign(1);
        Check.due("resend(1) without a promise", 7, x.resend(1));
        x.deliver(6);
        x.deliver(13);
        dropAll(x);
        Check.due("resend(1) with that of station 6", 6, x.resend(1));
        for (int s = 0; s < 6; s++) {
            dueLetter(x, s, 0, s, 1, 3, -1, -1);
        }
        deliverFirst(x, 6);
        deliverFirst(x, 3);
        dropAll(x);
        dueState(x, 1, 1, 3, -1, 4);
        Check.due("resend(1) with four", 3, x.resend(1));
        dueLetter(x, 0, 0, 3, 1, 3, -1, -1);
        dueLetter(x, 2, 0, 5, 1, 3, -1, -1);
        deliverFirst(x, 3);
        x.deliver(0);
        dropAll(x);
        Check.due("resend(1) with five", 0, x.resend(1));
    }

    private static void resendAccepts() {
        LogHouse x = led(0);
        write(x, 0, 1, 2, 3, 4);
        x.propose(0);
        Check.due("resend(0) without an answer", 7, x.resend(0));
        deliverFirst(x, 7);
        for (int k = 0; k < 4; k++) {
            x.deliver(9);
        }
        dropAll(x);
        Check.due("resend(0) with four, 0 and 1 and 6 not among them", 3, x.resend(0));
        dueLetter(x, 0, 2, 0, 0, 2, 0, 2);
        dueLetter(x, 1, 2, 1, 0, 2, 0, 2);
        dueLetter(x, 2, 2, 6, 0, 2, 0, 2);
        x.deliver(2);
        x.deliver(2);
        Check.due("decided(0, 0)", 2, x.decided(0, 0));
        Check.due("resend(0) with five", 0, x.resend(0));
        dueRead(x, 0, 0, 1, 2, 3, 4);
    }

    private static void resendPlaces() {
        LogHouse x = led(0);
        for (int place = 0; place < 3; place++) {
            write(x, 0, place + 1);
            x.propose(0);
            if (place == 1) {
                deliverAll(x);
            } else {
                dropAll(x);
            }
        }
        Check.due("resend(0)", 14, x.resend(0));
        dueLetter(x, 6, 2, 6, 0, 2, 0, 2);
        dueLetter(x, 7, 2, 0, 0, 2, 2, 2);
        deliverAll(x);
        dueRead(x, 0, 0, 1);
        dueRead(x, 0, 2, 3);
    }

    private static void resendLittleRoom() {
        LogHouse x = new LogHouse();
        x.campaign(0);
        fillUpTo(x, 58);
        Check.due("resend(0) with room for two", 2, x.resend(0));
        dueLetter(x, 59, 0, 1, 0, 2, -1, -1);
        LogHouse y = led(0);
        write(y, 0, 1);
        y.propose(0);
        write(y, 0, 2);
        y.propose(0);
        fillUpTo(y, 52);
        Check.due("resend(0) with room for eight of fourteen", 8, y.resend(0));
        dueLetter(y, 59, 2, 0, 0, 2, 1, 2);
    }

    private static void resendNoRoom() {
        dueUntouched("resend(0)", Scenes::busyAndFull, x -> Check.due("resend(0) LEADING", 0, x.resend(0)));
        dueUntouched("resend(1)", Scenes::busyAndFull, x -> Check.due("resend(1) CAMPAIGNING", 0, x.resend(1)));
    }

    // ---- promises 6 and 7

    private static void deliverAndDrop() {
        Check.sentence("6: Letter i is taken out of the row: the first", () -> deliverTakesOut(0));
        Check.sentence("6: Letter i is taken out of the row: one between", () -> deliverTakesOut(3));
        Check.sentence("6: Letter i is taken out of the row: the last", () -> deliverTakesOut(6));
        Check.sentence("6: how many letters came into the row by it", EdgesOfCallsTest::deliverCounts);
        Check.sentence("6: IndexOutOfBoundsException if there is no such letter",
                () -> dueNoLetter("deliver", LogHouse::deliver));
        Check.sentence("7: Letter i is lost: the first", () -> dropLoses(0));
        Check.sentence("7: Letter i is lost: one between", () -> dropLoses(3));
        Check.sentence("7: Letter i is lost: the last", () -> dropLoses(6));
        Check.sentence("7: Letter i is lost: the only one", EdgesOfCallsTest::dropTheOnlyOne);
        Check.sentence("7: Letter i is lost: one of a full row", EdgesOfCallsTest::dropOfFullRow);
        Check.sentence("7: IndexOutOfBoundsException if there is no such letter",
                () -> dueNoLetter("drop", LogHouse::drop));
    }

    private static void dueWithout(LogHouse x, int lost) {
        for (int i = 0; i < 6; i++) {
            dueLetter(x, i, 0, i < lost ? i : i + 1, 0, 2, -1, -1);
        }
    }

    private static void deliverTakesOut(int i) {
        LogHouse x = new LogHouse();
        x.campaign(0);
        Check.due("deliver(" + i + ")", 1, x.deliver(i));
        dueWithout(x, i);
        dueLetter(x, 6, 1, i, 0, 2, -1, -1);
        Check.due("deliver(6): the promise", 0, x.deliver(6));
        dueWithout(x, i);
        Check.due("letters()", 6, x.letters());
    }

    private static void deliverCounts() {
        LogHouse x = new LogHouse();
        x.campaign(0);
        Check.due("a PREPARE that is answered", 1, x.deliver(0));
        x.up(1, false);
        Check.due("a PREPARE that is not", 0, x.deliver(0));
        Check.due("a PROMISE", 0, x.deliver(5));
        LogHouse y = acceptedBy(new int[] {1}, 0, 1, 2);
        Check.due("the fifth PROMISE, with a report", 7, campaignOver(y, 1, 0, 1, 2, 3, 4));
        Check.due("an ACCEPT", 1, y.deliver(0));
        Check.due("an ACCEPTED", 0, y.deliver(6));
    }

    private static void dropLoses(int i) {
        LogHouse x = new LogHouse();
        x.campaign(0);
        x.drop(i);
        Check.due("letters()", 6, x.letters());
        dueWithout(x, i);
        Check.due("station(" + i + ", 0): it did not come", 0, x.station(i, 0));
    }

    private static void dropTheOnlyOne() {
        LogHouse x = new LogHouse();
        x.campaign(0);
        for (int left = 6; left >= 0; left--) {
            x.drop(0);
            Check.due("letters()", left, x.letters());
        }
        Check.dueIndex("drop(0) of none", () -> x.drop(0));
    }

    private static void dropOfFullRow() {
        for (int i : new int[] {0, 30, 59}) {
            LogHouse x = new LogHouse();
            x.campaign(0);
            fillUpTo(x, 60);
            x.drop(i);
            Check.due("letters()", 59, x.letters());
            x.twin(58);
            Check.due("letters(): there is room again", 60, x.letters());
        }
    }

    // ---- promise 8

    private static void twin() {
        Check.sentence("8: One more like letter i: of each kind", EdgesOfCallsTest::twinOfEachKind);
        Check.sentence("8: One more like letter i: its report too", EdgesOfCallsTest::twinOfReport);
        Check.sentence("8: into the row: the sixtieth", EdgesOfCallsTest::twinToTheBrim);
        Check.sentence("8: IndexOutOfBoundsException if there is no such letter",
                () -> dueNoLetter("twin", LogHouse::twin));
        Check.sentence("8: IllegalStateException if there is no room", EdgesOfCallsTest::twinNoRoom);
    }

    private static void twinOfEachKind() {
        LogHouse x = busy();
        boolean[] kinds = new boolean[4];
        for (int i = 0; i < 12; i++) {
            x.twin(i);
            kinds[x.letter(i, 0)] = true;
            Check.due("letters()", 13 + i, x.letters());
            for (int what = 0; what < 6; what++) {
                Check.due("letter(" + (12 + i) + ", " + what + ")", x.letter(i, what), x.letter(12 + i, what));
            }
        }
        for (int kind = 0; kind < 4; kind++) {
            Check.due("a letter of kind " + kind + " among them", true, kinds[kind]);
        }
    }

    private static void twinOfReport() {
        LogHouse x = led(0);
        write(x, 0, 1, 2, 3, 4, 5);
        x.propose(0);
        x.twin(2);
        x.drop(2);
        x.deliver(6);
        LogHouse y = settled(1, 2, 3, 4, 5);
        for (int what = 0; what < 6; what++) {
            Check.due("share(2, 0, " + what + ")", y.share(2, 0, what), x.share(2, 0, what));
        }
        y.campaign(1);
        deliverFirst(y, 7);
        for (int s = 0; s < 7; s++) {
            y.twin(0);
            y.drop(0);
        }
        deliverFirst(y, 4);
        Check.due("deliver(0): the twins of promises hold shares", 7, y.deliver(0));
        deliverAll(y);
        dueRead(y, 1, 0, 1, 2, 3, 4, 5);
    }

    private static void twinToTheBrim() {
        LogHouse x = new LogHouse();
        x.campaign(0);
        fillUpTo(x, 59);
        x.twin(1);
        Check.due("letters()", 60, x.letters());
        dueLetter(x, 59, 0, 1, 0, 2, -1, -1);
    }

    private static void twinNoRoom() {
        for (int i : new int[] {0, 11, 59}) {
            dueRefused("twin(" + i + ")", IllegalStateException.class, Scenes::busyAndFull, x -> x.twin(i));
        }
        LogHouse x = busyAndFull();
        x.drop(7);
        x.twin(0);
        Check.dueState("twin(0): the room of one is used up", () -> x.twin(0));
    }

    // ---- promises 9 and 10

    private static void lettersAndLetter() {
        Check.sentence("9: How many letters lie in the row: 0 .. 60", EdgesOfCallsTest::lettersCounted);
        Check.sentence("10: its kind, station, proposer, ballot", EdgesOfCallsTest::letterOfEachKind);
        Check.sentence("10: both -1 if it has none", EdgesOfCallsTest::letterWithoutPlace);
        Check.sentence("10: IndexOutOfBoundsException if there is no such letter",
                () -> dueNoLetter("letter", (x, i) -> x.letter(i, 0)));
        Check.sentence("10: IllegalArgumentException if there is no such what",
                () -> dueArgumentOf("letter 0", NO_WHATS_OF_SIX, (x, what) -> x.letter(0, what)));
        Check.sentence("10: no such letter, and no such what", EdgesOfCallsTest::letterBothWrong);
    }

    private static void lettersCounted() {
        LogHouse x = new LogHouse();
        Check.due("letters()", 0, x.letters());
        x.campaign(0);
        for (int count = 7; count < 60; count++) {
            Check.due("letters()", count, x.letters());
            x.twin(0);
        }
        Check.due("letters()", 60, x.letters());
        for (int count = 59; count >= 0; count--) {
            x.drop(0);
            Check.due("letters()", count, x.letters());
        }
    }

    private static void letterOfEachKind() {
        LogHouse x = busy();
        dueLetter(x, 0, 2, 2, 0, 2, 1, 2);
        dueLetter(x, 5, 3, 1, 0, 2, 1, 2);
        dueLetter(x, 6, 0, 2, 1, 3, -1, -1);
        dueLetter(x, 11, 1, 1, 1, 3, -1, -1);
    }

    private static void letterWithoutPlace() {
        LogHouse x = settled(1);
        write(x, 0, 2);
        x.propose(0);
        dropAll(x);
        x.campaign(0);
        for (int s = 0; s < 7; s++) {
            dueLetter(x, s, 0, s, 0, 4, -1, -1);
        }
        deliverFirst(x, 7);
        for (int s = 0; s < 7; s++) {
            dueLetter(x, s, 1, s, 0, 4, -1, -1);
        }
    }

    private static void letterBothWrong() {
        LogHouse x = busy();
        for (int what : NO_WHATS_OF_SIX) {
            Check.dueIndex("letter(12, " + what + "): what the document names first", () -> x.letter(12, what));
            Check.dueIndex("letter(-1, " + what + ")", () -> x.letter(-1, what));
        }
    }

    // ---- promise 11

    private static void up() {
        Check.sentence("11: DOWN, or up again: whether it was the other way before", EdgesOfCallsTest::upBothWays);
        Check.sentence("11: with all that it had", EdgesOfCallsTest::upWithAll);
        Check.sentence("11: up again, but still wiped", EdgesOfCallsTest::upStillWiped);
        Check.sentence("11: IllegalArgumentException if there is no such station: up",
                () -> dueArgumentOf("up true", NO_STATIONS, (x, s) -> x.up(s, true)));
        Check.sentence("11: IllegalArgumentException if there is no such station: down",
                () -> dueArgumentOf("up false", NO_STATIONS, (x, s) -> x.up(s, false)));
    }

    private static void upBothWays() {
        LogHouse x = new LogHouse();
        for (int s = 0; s < 7; s++) {
            Check.due("up(" + s + ", true): up at first", false, x.up(s, true));
            Check.due("up(" + s + ", false)", true, x.up(s, false));
            Check.due("up(" + s + ", false) again", false, x.up(s, false));
            Check.due("station(" + s + ", 2)", 0, x.station(s, 2));
            Check.due("up(" + s + ", true)", true, x.up(s, true));
            Check.due("up(" + s + ", true) again", false, x.up(s, true));
            Check.due("station(" + s + ", 2)", 1, x.station(s, 2));
        }
    }

    private static void upWithAll() {
        LogHouse x = settled(1, 2, 3, 4);
        x.up(2, false);
        dueStation(x, 2, 2, 2, 0, 0);
        x.up(2, true);
        dueStation(x, 2, 2, 2, 1, 0);
        LogHouse y = settled(1, 2, 3, 4);
        for (int what = 0; what < 6; what++) {
            Check.due("share(2, 0, " + what + ")", y.share(2, 0, what), x.share(2, 0, what));
        }
    }

    private static void upStillWiped() {
        LogHouse x = settled(1);
        x.wipe(2);
        Check.due("up(2, false)", true, x.up(2, false));
        Check.due("up(2, true)", true, x.up(2, true));
        dueStation(x, 2, 0, 0, 1, 1);
    }

    // ---- promise 12

    private static void wipe() {
        Check.sentence("12: A station loses all it has", EdgesOfCallsTest::wipeLosesAll);
        Check.sentence("12: loses all it has: an empty one", EdgesOfCallsTest::wipeOfEmpty);
        Check.sentence("12: loses all it has: one that is DOWN", EdgesOfCallsTest::wipeOfDown);
        Check.sentence("12: was WIPED from now on: twice", EdgesOfCallsTest::wipeTwice);
        Check.sentence("12: IllegalArgumentException if there is no such station",
                () -> dueArgumentOf("wipe", NO_STATIONS, LogHouse::wipe));
    }

    private static void wipeLosesAll() {
        LogHouse x = led(0);
        for (int place = 0; place < 8; place++) {
            write(x, 0, place, 2, 3, 4);
            x.propose(0);
            deliverFirst(x, 7);
            dropAll(x);
        }
        dueStation(x, 3, 2, 16, 1, 0);
        x.wipe(3);
        dueStation(x, 3, 0, 0, 1, 1);
        for (int place = 0; place < 8; place++) {
            dueShare(x, 3, place, -1, -1, -1, -1);
            dueShare(x, 2, place, 2, 2, 4);
            dueShare(x, 4, place, 2, 2, 4);
        }
    }

    private static void wipeOfEmpty() {
        LogHouse x = new LogHouse();
        x.wipe(0);
        x.wipe(6);
        dueStation(x, 0, 0, 0, 1, 1);
        dueStation(x, 1, 0, 0, 1, 0);
        dueStation(x, 6, 0, 0, 1, 1);
    }

    private static void wipeOfDown() {
        LogHouse x = settled(1);
        x.up(5, false);
        x.wipe(5);
        dueStation(x, 5, 0, 0, 0, 1);
        Check.due("up(5, true)", true, x.up(5, true));
        dueStation(x, 5, 0, 0, 1, 1);
    }

    private static void wipeTwice() {
        LogHouse x = settled(1);
        x.wipe(5);
        x.catchUp(5, 0);
        dueStation(x, 5, 0, 1, 1, 1);
        x.wipe(5);
        dueStation(x, 5, 0, 0, 1, 1);
        Check.due("catchUp(5, 0)", 1, x.catchUp(5, 0));
    }

    // ---- promise 13

    private static void catchUp() {
        Check.sentence("13: each place that a proposer knows as decided", EdgesOfCallsTest::catchUpOfPlaces);
        Check.sentence("13: a proposer knows as decided: none", EdgesOfCallsTest::catchUpOfNone);
        Check.sentence("13: that it has none of", EdgesOfCallsTest::catchUpAgain);
        Check.sentence("13: three other stations: two and three", EdgesOfCallsTest::catchUpFromThree);
        Check.sentence("13: three other stations that are up", EdgesOfCallsTest::catchUpFromThoseUp);
        Check.sentence("13: shares of the identity decided", EdgesOfCallsTest::catchUpOfIdentity);
        Check.sentence("13: takes its share anew (ballot 0)", EdgesOfCallsTest::catchUpShares);
        Check.sentence("13: IllegalArgumentException if there is no such station",
                () -> dueArgumentOf("catchUp", NO_STATIONS, (x, s) -> x.catchUp(s, 0)));
        Check.sentence("13: IllegalArgumentException if there is no such proposer",
                () -> dueArgumentOf("catchUp of 4 by", NO_PROPOSERS, (x, p) -> x.catchUp(4, p)));
        Check.sentence("13: no such proposer, and not wiped or DOWN", EdgesOfCallsTest::catchUpBothWrong);
        Check.sentence("13: IllegalStateException if it was not wiped",
                () -> dueRefused("catchUp(2, 0)", IllegalStateException.class, Scenes::busy, x -> x.catchUp(2, 0)));
        Check.sentence("13: IllegalStateException if it is DOWN", EdgesOfCallsTest::catchUpDown);
    }

    private static void catchUpOfPlaces() {
        LogHouse x = led(0);
        for (int place = 0; place < 8; place++) {
            write(x, 0, place + 1);
            x.propose(0);
            deliverFirst(x, 7);
            if (place != 5) {
                deliverFirst(x, 5);
            }
            dropAll(x);
        }
        x.wipe(0);
        Check.due("catchUp(0, 0): all but one that is not decided", 7, x.catchUp(0, 0));
        dueShare(x, 0, 0, 0, 2, 1, 1);
        dueShare(x, 0, 5, -1, -1);
        dueShare(x, 0, 7, 0, 2, 1, 8);
        dueStation(x, 0, 0, 7, 1, 1);
    }

    private static void catchUpOfNone() {
        LogHouse x = settled(1);
        x.wipe(0);
        Check.due("catchUp(0, 1): what proposer 0 knows is not known to 1", 0, x.catchUp(0, 1));
        dueShare(x, 0, 0, -1);
        LogHouse y = new LogHouse();
        y.wipe(6);
        Check.due("catchUp(6, 0)", 0, y.catchUp(6, 0));
    }

    private static void catchUpAgain() {
        LogHouse x = settled(1);
        x.wipe(0);
        Check.due("catchUp(0, 0)", 1, x.catchUp(0, 0));
        Check.due("catchUp(0, 0) again", 0, x.catchUp(0, 0));
        write(x, 0, 2);
        x.propose(0);
        deliverAll(x);
        Check.due("catchUp(0, 0): the newly decided one alone", 1, x.catchUp(0, 0));
        dueStation(x, 0, 0, 2, 1, 1);
    }

    private static void catchUpFromThree() {
        LogHouse x = settled(1, 2, 3, 4);
        for (int s = 0; s < 5; s++) {
            x.wipe(s);
        }
        Check.due("catchUp(0, 0) from two", 0, x.catchUp(0, 0));
        dueShare(x, 0, 0, -1, -1, -1, -1);
        LogHouse y = settled(1, 2, 3, 4);
        for (int s = 0; s < 4; s++) {
            y.wipe(s);
        }
        Check.due("catchUp(0, 0) from three", 1, y.catchUp(0, 0));
        Check.due("catchUp(1, 0) from those and one that has caught up", 1, y.catchUp(1, 0));
        y.wipe(6);
        y.wipe(5);
        Check.due("catchUp(6, 0) from 4 and two that have caught up", 1, y.catchUp(6, 0));
    }

    private static void catchUpFromThoseUp() {
        LogHouse x = settled(1, 2, 3, 4);
        x.wipe(6);
        for (int s = 0; s < 4; s++) {
            x.up(s, false);
        }
        Check.due("catchUp(6, 0) from two that are up", 0, x.catchUp(6, 0));
        x.up(1, true);
        Check.due("catchUp(6, 0) from three that are up", 1, x.catchUp(6, 0));
    }

    /** Stations 0 .. 4 have shares of identity 3, which proposer 1 knows as decided; 5 and 6 of identity 2. */
    private static LogHouse twoIdentities() {
        LogHouse x = acceptedBy(new int[] {1, 2, 3, 4}, 5, 6);
        campaignOver(x, 1, 0, 1, 2, 3, 4);
        write(x, 1, 9);
        x.propose(1);
        deliverFirst(x, 5);
        x.drop(0);
        x.drop(0);
        deliverFirst(x, 5);
        return x;
    }

    private static void catchUpOfIdentity() {
        LogHouse x = twoIdentities();
        Check.due("decided(1, 0)", 3, x.decided(1, 0));
        for (int s = 0; s < 3; s++) {
            x.wipe(s);
        }
        Check.due("catchUp(0, 1): two of identity 3, two of identity 2", 0, x.catchUp(0, 1));
        dueShare(x, 0, 0, -1);
        LogHouse y = twoIdentities();
        y.wipe(0);
        y.wipe(1);
        Check.due("catchUp(0, 1): three of identity 3", 1, y.catchUp(0, 1));
        dueShare(y, 0, 0, 0, 3, 1, 9, -1);
    }

    private static void catchUpShares() {
        int[] bytes = counted(24, 201);
        LogHouse y = settled(bytes);
        for (int s = 0; s < 7; s++) {
            LogHouse x = settled(bytes);
            x.wipe(s);
            Check.due("catchUp(" + s + ", 0)", 1, x.catchUp(s, 0));
            dueShare(x, s, 0, 0, 2, 24);
            for (int what = 3; what < 12; what++) {
                Check.due("share(" + s + ", 0, " + what + ")", y.share(s, 0, what), x.share(s, 0, what));
            }
        }
    }

    private static void catchUpBothWrong() {
        LogHouse x = busy();
        Check.dueArgument("catchUp(2, 2): not wiped either", () -> x.catchUp(2, 2));
        Check.dueArgument("catchUp(3, -1): DOWN too", () -> x.catchUp(3, -1));
        Check.dueArgument("catchUp(7, 2)", () -> x.catchUp(7, 2));
    }

    private static LogHouse wipedAndDown() {
        LogHouse x = busy();
        x.up(4, false);
        return x;
    }

    private static void catchUpDown() {
        Class<? extends RuntimeException> want = IllegalStateException.class;
        dueRefused("catchUp(4, 0)", want, EdgesOfCallsTest::wipedAndDown, x -> x.catchUp(4, 0));
        dueRefused("catchUp(3, 0): not wiped either", want, Scenes::busy, x -> x.catchUp(3, 0));
        LogHouse y = wipedAndDown();
        y.up(4, true);
        Check.due("catchUp(4, 0): up again", 1, y.catchUp(4, 0));
    }

    // ---- promise 14

    private static void decided() {
        Check.sentence("14: The identity that a proposer knows as decided", EdgesOfCallsTest::decidedIdentity);
        Check.sentence("14: 0 if it knows none", EdgesOfCallsTest::decidedNone);
        Check.sentence("14: IllegalArgumentException if there is no such proposer",
                () -> dueArgumentOf("decided by", NO_PROPOSERS, (x, p) -> x.decided(p, 0)));
        Check.sentence("14: IllegalArgumentException if there is no such place",
                () -> dueArgumentOf("decided of 0 at", NO_PLACES, (x, place) -> x.decided(0, place)));
    }

    private static void decidedIdentity() {
        LogHouse x = settled(1);
        campaignOver(x, 1, 0, 1, 2, 3, 4);
        deliverAll(x);
        Check.due("decided(1, 0): not its own ballot, but the first", 2, x.decided(1, 0));
        write(x, 1, 5);
        x.propose(1);
        deliverAll(x);
        Check.due("decided(1, 1)", 3, x.decided(1, 1));
    }

    private static void decidedNone() {
        LogHouse x = busy();
        Check.due("decided(0, 1): proposed only", 0, x.decided(0, 1));
        Check.due("decided(0, 7): free", 0, x.decided(0, 7));
        Check.due("decided(1, 0): CAMPAIGNING", 0, x.decided(1, 0));
        Check.due("decided(1, 7)", 0, x.decided(1, 7));
    }

    // ---- promise 15

    private static void read() {
        Check.sentence("15: its length: 1 .. 24", EdgesOfCallsTest::readEachLength);
        Check.sentence("15: out of the shares of stations that are up", EdgesOfCallsTest::readOfThoseUp);
        Check.sentence("15: and have one of it", EdgesOfCallsTest::readOfThoseThatHaveIt);
        Check.sentence("15: IllegalArgumentException if there is no such proposer",
                () -> dueArgumentOf("read by", NO_PROPOSERS, (x, p) -> x.read(p, 0)));
        Check.sentence("15: IllegalArgumentException if there is no such place",
                () -> dueArgumentOf("read by 0 at", NO_PLACES, (x, place) -> x.read(0, place)));
        Check.sentence("15: NoSuchElementException if it knows none", EdgesOfCallsTest::readNone);
        Check.sentence("15: IllegalStateException if there are not three: two", () -> readOfTooFew(2));
        Check.sentence("15: IllegalStateException if there are not three: one", () -> readOfTooFew(1));
        Check.sentence("15: IllegalStateException if there are not three: none", () -> readOfTooFew(0));
        Check.sentence("15: no such place, and knows none; knows none, and not three", EdgesOfCallsTest::readBothWrong);
    }

    private static void readEachLength() {
        for (int length = 1; length <= 24; length++) {
            LogHouse x = settled(counted(length, 250));
            dueRead(x, 0, 0, counted(length, 250));
        }
    }

    private static void readOfThoseUp() {
        LogHouse x = settled(9, 8, 7, 6);
        for (int s = 0; s < 4; s++) {
            x.up(s, false);
            dueRead(x, 0, 0, 9, 8, 7, 6);
        }
        x.up(6, false);
        x.up(0, true);
        dueRead(x, 0, 0, 9, 8, 7, 6);
    }

    private static void readOfThoseThatHaveIt() {
        LogHouse x = acceptedBy(new int[] {1, 2, 3, 4}, 0, 1);
        campaignOver(x, 1, 2, 3, 4, 5, 6);
        write(x, 1, 50, 60, 70, 80);
        x.propose(1);
        x.drop(0);
        x.drop(0);
        deliverAll(x);
        dueShare(x, 0, 0, 2, 2, 4);
        dueRead(x, 1, 0, 50, 60, 70, 80);
        x.up(5, false);
        x.up(6, false);
        dueRead(x, 1, 0, 50, 60, 70, 80);
        x.wipe(4);
        Check.dueState("read(1, 0): two of it, two of another, one of none", () -> x.read(1, 0));
        x.up(6, true);
        dueRead(x, 1, 0, 50, 60, 70, 80);
    }

    private static void readNone() {
        Class<? extends RuntimeException> want = NoSuchElementException.class;
        dueRefused("read(0, 1): proposed only", want, Scenes::busy, x -> x.read(0, 1));
        dueRefused("read(0, 7): free", want, Scenes::busy, x -> x.read(0, 7));
        dueRefused("read(1, 0): the other knows it", want, Scenes::busy, x -> x.read(1, 0));
        dueRefused("read(0, 0) of a new object", want, LogHouse::new, x -> x.read(0, 0));
    }

    /** What was read before is what was read last still. */
    private static void readOfTooFew(int holders) {
        Scene few = () -> {
            LogHouse x = busy();
            for (int s = 0; s < 7 - holders; s++) {
                x.up(s, false);
            }
            return x;
        };
        dueRefused("read(0, 0) of " + holders, IllegalStateException.class, few, x -> x.read(0, 0));
        Scene wiped = () -> {
            LogHouse x = settled(7, 8, 9);
            for (int s = holders; s < 7; s++) {
                x.wipe(s);
            }
            return x;
        };
        LogHouse y = wiped.make();
        Check.dueState("read(0, 0) of " + holders + " not wiped", () -> y.read(0, 0));
        Check.dueIndex("readByte(0): nothing was read yet", () -> y.readByte(0));
    }

    private static void readBothWrong() {
        LogHouse x = new LogHouse();
        Check.dueArgument("read(0, 8)", () -> x.read(0, 8));
        Check.dueArgument("read(2, 0)", () -> x.read(2, 0));
        for (int s = 0; s < 7; s++) {
            x.up(s, false);
        }
        Check.dueThrow("read(0, 0)", NoSuchElementException.class, () -> x.read(0, 0));
    }

    // ---- promise 16

    private static void readByte() {
        Check.sentence("16: Byte i of what was read last: first and last", EdgesOfCallsTest::readByteEnds);
        Check.sentence("16: what was read last: a shorter one", EdgesOfCallsTest::readByteOfShorter);
        Check.sentence("16: what was read last: lost since", EdgesOfCallsTest::readByteLostSince);
        Check.sentence("16: IndexOutOfBoundsException if there is none", EdgesOfCallsTest::readByteOutside);
        Check.sentence("16: IndexOutOfBoundsException before a read", EdgesOfCallsTest::readByteBefore);
    }

    private static void readByteEnds() {
        LogHouse x = settled(counted(24, 128));
        x.read(0, 0);
        Check.due("readByte(0)", 128, x.readByte(0));
        Check.due("readByte(23)", 128 + 37 * 23 & 255, x.readByte(23));
        Check.dueIndex("readByte(24)", () -> x.readByte(24));
        LogHouse y = settled(255);
        y.read(0, 0);
        Check.due("readByte(0): not negative", 255, y.readByte(0));
        Check.dueIndex("readByte(1)", () -> y.readByte(1));
    }

    private static void readByteOfShorter() {
        LogHouse x = settled(counted(24, 1));
        write(x, 0, 5, 6);
        x.propose(0);
        deliverAll(x);
        x.read(0, 0);
        x.read(0, 1);
        Check.due("readByte(1)", 6, x.readByte(1));
        Check.dueIndex("readByte(2): of the longer one before", () -> x.readByte(2));
        x.read(0, 0);
        Check.due("readByte(23)", 1 + 37 * 23 & 255, x.readByte(23));
    }

    private static void readByteLostSince() {
        LogHouse x = settled(5, 6);
        x.read(0, 0);
        for (int s = 0; s < 7; s++) {
            x.wipe(s);
        }
        Check.dueState("read(0, 0)", () -> x.read(0, 0));
        Check.due("readByte(0)", 5, x.readByte(0));
        Check.due("readByte(1)", 6, x.readByte(1));
    }

    private static void readByteOutside() {
        dueRefusedOf("readByte", IndexOutOfBoundsException.class,
                new int[] {-1, 4, 5, 24, 256, Integer.MIN_VALUE, Integer.MAX_VALUE}, LogHouse::readByte);
    }

    private static void readByteBefore() {
        LogHouse x = settled(5, 6);
        for (int i : new int[] {-1, 0, 1, Integer.MAX_VALUE}) {
            Check.dueIndex("readByte(" + i + ")", () -> x.readByte(i));
        }
        x.wipe(0);
        x.catchUp(0, 0);
        Check.dueIndex("readByte(0): catchUp reads nothing", () -> x.readByte(0));
    }

    // ---- promise 17

    private static void state() {
        Check.sentence("17: 0 IDLE, 1 CAMPAIGNING, 2 LEADING", EdgesOfCallsTest::statePhases);
        Check.sentence("17: its ballot (0 without one)", EdgesOfCallsTest::stateBallot);
        Check.sentence("17: the first place that is FREE", EdgesOfCallsTest::stateFree);
        Check.sentence("17: -1 if there is none", EdgesOfCallsTest::stateNoneFree);
        Check.sentence("17: -1 if it is not LEADING", EdgesOfCallsTest::stateNotLeading);
        Check.sentence("17: how many promises it has of its ballot", EdgesOfCallsTest::statePromises);
        Check.sentence("17: IllegalArgumentException if there is no such proposer",
                () -> dueArgumentOf("state of", NO_PROPOSERS, (x, p) -> x.state(p, 0)));
        Check.sentence("17: IllegalArgumentException if there is no such what",
                () -> dueArgumentOf("state of 1,", NO_WHATS_OF_FOUR, (x, what) -> x.state(1, what)));
    }

    private static void statePhases() {
        LogHouse x = busy();
        Check.due("state(0, 0)", 2, x.state(0, 0));
        Check.due("state(1, 0)", 1, x.state(1, 0));
        Check.due("state(0, 0) of a new object", 0, new LogHouse().state(0, 0));
    }

    private static void stateBallot() {
        LogHouse x = new LogHouse();
        Check.due("state(1, 1)", 0, x.state(1, 1));
        x.campaign(1);
        Check.due("state(1, 1)", 3, x.state(1, 1));
        Check.due("state(0, 1)", 0, x.state(0, 1));
        deliverAll(x);
        Check.due("state(1, 1)", 3, x.state(1, 1));
        x.campaign(1);
        Check.due("state(1, 1)", 5, x.state(1, 1));
    }

    private static void stateFree() {
        LogHouse x = led(0);
        for (int place = 0; place < 8; place++) {
            Check.due("state(0, 2)", place, x.state(0, 2));
            write(x, 0, 1);
            x.propose(0);
            dropAll(x);
        }
    }

    private static void stateNoneFree() {
        LogHouse x = allProposed();
        dueState(x, 0, 2, 2, -1, 5);
    }

    private static void stateNotLeading() {
        LogHouse x = new LogHouse();
        Check.due("state(0, 2) IDLE", -1, x.state(0, 2));
        x.campaign(0);
        deliverFirst(x, 7);
        deliverFirst(x, 4);
        Check.due("state(0, 2) CAMPAIGNING", -1, x.state(0, 2));
        x.deliver(0);
        Check.due("state(0, 2) LEADING", 0, x.state(0, 2));
        x.campaign(0);
        Check.due("state(0, 2) CAMPAIGNING again", -1, x.state(0, 2));
    }

    private static void statePromises() {
        LogHouse x = new LogHouse();
        Check.due("state(0, 3)", 0, x.state(0, 3));
        x.campaign(0);
        deliverFirst(x, 7);
        for (int k = 1; k <= 7; k++) {
            x.deliver(0);
            Check.due("state(0, 3) after " + k, Math.min(5, k), x.state(0, 3));
        }
        x.campaign(0);
        Check.due("state(0, 3) of a new ballot", 0, x.state(0, 3));
    }

    // ---- promise 18

    private static void station() {
        Check.sentence("18: its promised ballot", EdgesOfCallsTest::stationPromised);
        Check.sentence("18: how many bytes of shares it has: none, all", EdgesOfCallsTest::stationBytes);
        Check.sentence("18: whether it is up or was wiped, as 1 and 0", EdgesOfCallsTest::stationUpAndWiped);
        Check.sentence("18: IllegalArgumentException if there is no such station",
                () -> dueArgumentOf("station", NO_STATIONS, (x, s) -> x.station(s, 0)));
        Check.sentence("18: IllegalArgumentException if there is no such what",
                () -> dueArgumentOf("station 6,", NO_WHATS_OF_FOUR, (x, what) -> x.station(6, what)));
    }

    private static void stationPromised() {
        LogHouse x = new LogHouse();
        x.campaign(1);
        Check.due("station(6, 0)", 0, x.station(6, 0));
        x.deliver(6);
        Check.due("station(6, 0)", 3, x.station(6, 0));
        Check.due("station(5, 0)", 0, x.station(5, 0));
        x.up(6, false);
        Check.due("station(6, 0)", 3, x.station(6, 0));
        x.wipe(6);
        Check.due("station(6, 0)", 0, x.station(6, 0));
    }

    private static void stationBytes() {
        LogHouse x = led(0);
        int sum = 0;
        for (int place = 0; place < 8; place++) {
            Check.due("station(6, 1)", sum, x.station(6, 1));
            int length = 24 - place;
            for (int k = 0; k < length; k++) {
                x.byteIn(0, k, 1);
            }
            x.propose(0);
            x.deliver(6);
            dropAll(x);
            sum += (length + 2) / 3;
        }
        Check.due("station(6, 1)", sum, x.station(6, 1));
        Check.due("station(5, 1)", 0, x.station(5, 1));
    }

    private static void stationUpAndWiped() {
        LogHouse x = busy();
        dueStation(x, 2, 2, 2, 1, 0);
        dueStation(x, 3, 2, 2, 0, 0);
        dueStation(x, 4, 0, 0, 1, 1);
        x.up(4, false);
        dueStation(x, 4, 0, 0, 0, 1);
    }

    // ---- promise 19

    private static void share() {
        Check.sentence("19: its ballot, identity, length, byte what - 3", EdgesOfCallsTest::shareFields);
        Check.sentence("19: -1 if it has nothing", EdgesOfCallsTest::shareNothing);
        Check.sentence("19: -1 if it has no such byte", EdgesOfCallsTest::shareNoSuchByte);
        Check.sentence("19: IllegalArgumentException if there is no such station",
                () -> dueArgumentOf("share of", NO_STATIONS, (x, s) -> x.share(s, 0, 0)));
        Check.sentence("19: IllegalArgumentException if there is no such place",
                () -> dueArgumentOf("share of 0 at", NO_PLACES, (x, place) -> x.share(0, place, 0)));
        Check.sentence("19: IllegalArgumentException if what is below 0",
                () -> dueArgumentOf("share of 0 at 0,", new int[] {-1, -2, -3, -256, Integer.MIN_VALUE},
                        (x, what) -> x.share(0, 0, what)));
        Check.sentence("19: what is below 0, and it has nothing",
                () -> dueArgumentOf("share of 0 at 7,", new int[] {-1, -3, Integer.MIN_VALUE},
                        (x, what) -> x.share(0, 7, what)));
    }

    private static void shareFields() {
        LogHouse x = settled(255, 128, 0);
        dueShare(x, 0, 0, 2, 2, 3, 255 ^ 128, -1);
        campaignOver(x, 1, 0, 1, 2, 3, 4);
        deliverAll(x);
        dueShare(x, 0, 0, 3, 2, 3, 255 ^ 128, -1);
        x.wipe(0);
        x.catchUp(0, 0);
        dueShare(x, 0, 0, 0, 2, 3, 255 ^ 128, -1);
    }

    private static void shareNothing() {
        LogHouse x = busy();
        for (int what : new int[] {0, 1, 2, 3, 4, 11, Integer.MAX_VALUE}) {
            Check.due("share(0, 7, " + what + ")", -1, x.share(0, 7, what));
            Check.due("share(2, 1, " + what + "): the ACCEPT lies in the row", -1, x.share(2, 1, what));
            Check.due("share(4, 0, " + what + "): wiped", -1, x.share(4, 0, what));
        }
    }

    /** Eight bytes fill a long, where a shift by eight bytes more would come round to the first. */
    private static void shareNoSuchByte() {
        LogHouse x = settled(counted(24, 3));
        Check.due("share(6, 0, 10): the last byte", true, x.share(6, 0, 10) >= 0);
        for (int what : new int[] {11, 12, 19, 3 + (1 << 29), 3 + (1 << 30), Integer.MAX_VALUE}) {
            Check.due("share(6, 0, " + what + ")", -1, x.share(6, 0, what));
        }
        LogHouse y = settled(7);
        Check.due("share(6, 0, 3)", 7, y.share(6, 0, 3));
        Check.due("share(6, 0, 4)", -1, y.share(6, 0, 4));
    }
}
