import java.util.NoSuchElementException;

/**
 * The promises of the document one by one: ordinary inputs, edges, wrong inputs. No object gets more than the 512
 * calls that the document speaks of.
 */
public final class PromisesTest extends Scenes {
    public static void main(String[] args) {
        newObject();
        byteIn();
        byteInLimit();
        campaignBallots();
        campaignForgets();
        campaignLetters();
        propose();
        proposeRefused();
        proposeOverflow();
        resendPrepares();
        resendAccepts();
        deliverToStations();
        deliverDownAndWiped();
        deliverPromises();
        deliverPromiseIsOfItsTime();
        deliverTakesThreeShares();
        deliverLeadsOverTwoReports();
        deliverLeadsWithManyPlaces();
        deliverAccepted();
        deliverAcceptedOfOldBallot();
        drop();
        twin();
        twinKeepsContents();
        letters();
        letter();
        up();
        wipe();
        catchUp();
        catchUpNeedsThree();
        catchUpFromCaughtUp();
        decided();
        read();
        readLengths();
        readByte();
        state();
        station();
        share();
        shareCoding();
        Check.end("PromisesTest");
    }

    // ---- promise 1

    private static void newObject() {
        LogHouse x = new LogHouse();
        for (int s = 0; s < 7; s++) {
            dueStation(x, s, 0, 0, 1, 0);
            for (int place = 0; place < 8; place++) {
                dueShare(x, s, place, -1, -1, -1, -1);
            }
        }
        for (int p = 0; p < 2; p++) {
            dueState(x, p, 0, 0, -1, 0);
            for (int place = 0; place < 8; place++) {
                Check.due("decided", 0, x.decided(p, place));
            }
        }
        Check.due("letters()", 0, x.letters());
        Check.dueIndex("readByte(0)", () -> x.readByte(0));
        settled(1, 2, 3);
        Check.due("letters() beside another object", 0, new LogHouse().letters());
        dueStation(new LogHouse(), 0, 0, 0, 1, 0);
    }

    // ---- promise 2

    private static void byteIn() {
        LogHouse x = led(0);
        Check.due("byteIn(0, 0x80FF017F, 4)", true, x.byteIn(0, 0x80FF017F, 4));
        Check.due("byteIn(0, 0xAABBCCDD, 3)", true, x.byteIn(0, 0xAABBCCDD, 3));
        Check.due("byteIn(0, 0xAABBCCDD, 2)", true, x.byteIn(0, 0xAABBCCDD, 2));
        Check.due("byteIn(1, 5, 1)", true, x.byteIn(1, 5, 1));
        Check.due("byteIn(0, -1, 1)", true, x.byteIn(0, -1, 1));
        for (int n : new int[] {0, 5, -1, Integer.MIN_VALUE, Integer.MAX_VALUE}) {
            Check.due("byteIn(0, 1, " + n + ")", false, x.byteIn(0, 1, n));
        }
        for (int p : NO_PROPOSERS) {
            Check.due("byteIn(" + p + ", 1, 1)", false, x.byteIn(p, 1, 1));
        }
        x.propose(0);
        deliverAll(x);
        dueRead(x, 0, 0, 0x80, 0xFF, 0x01, 0x7F, 0xBB, 0xCC, 0xDD, 0xCC, 0xDD, 0xFF);
    }

    private static void byteInLimit() {
        LogHouse x = led(1);
        int[] want = new int[24];
        for (int k = 0; k < 22; k++) {
            want[k] = 200 + k;
            write(x, 1, 200 + k);
        }
        Check.due("byteIn of 22 + 4", false, x.byteIn(1, 0x01020304, 4));
        Check.due("byteIn of 22 + 3", false, x.byteIn(1, 0x01020304, 3));
        Check.due("byteIn of 22 + 2", true, x.byteIn(1, 0x01020304, 2));
        Check.due("byteIn of 24 + 1", false, x.byteIn(1, 9, 1));
        want[22] = 3;
        want[23] = 4;
        x.propose(1);
        deliverAll(x);
        dueRead(x, 1, 0, want);
        Check.due("byteIn after propose", true, x.byteIn(1, 9, 1));
    }

    // ---- promise 3

    private static void campaignBallots() {
        LogHouse x = new LogHouse();
        Check.due("campaign(1)", 3, x.campaign(1));
        Check.due("campaign(0): no station has promised", 2, x.campaign(0));
        Check.due("campaign(1) again", 5, x.campaign(1));
        Check.due("campaign(0) again", 4, x.campaign(0));
        dropAll(x);
        Check.due("campaign(1) third", 7, x.campaign(1));
        x.deliver(6);
        x.up(6, false);
        Check.due("campaign(0) above a station that is down", 8, x.campaign(0));
        x.wipe(6);
        LogHouse y = new LogHouse();
        y.campaign(1);
        y.campaign(1);
        y.deliver(7);
        y.wipe(0);
        Check.due("campaign(0): what was promised is lost", 2, y.campaign(0));
        Check.due("campaign(1): above its last", 7, y.campaign(1));
        LogHouse z = new LogHouse();
        z.campaign(0);
        z.deliver(0);
        Check.due("campaign(1) above 2", 3, z.campaign(1));
        z.deliver(6);
        Check.due("campaign(0) above 3", 4, z.campaign(0));
        for (int s = 0; s < 7; s++) {
            LogHouse only = new LogHouse();
            only.campaign(1);
            only.campaign(1);
            only.deliver(7 + s);
            Check.due("campaign(0) above what station " + s + " alone has promised", 6, only.campaign(0));
        }
        for (int p : NO_PROPOSERS) {
            Check.dueArgument("campaign(" + p + ")", () -> z.campaign(p));
        }
    }

    private static void campaignForgets() {
        LogHouse x = led(0);
        write(x, 0, 1);
        x.propose(0);
        deliverAll(x);
        write(x, 0, 2);
        x.propose(0);
        dropAll(x);
        write(x, 0, 3);
        Check.due("campaign(0)", 4, x.campaign(0));
        dueState(x, 0, 1, 4, -1, 0);
        Check.due("decided(0, 0)", 2, x.decided(0, 0));
        deliverAll(x);
        dueState(x, 0, 2, 4, 1, 5);
        Check.due("resend(0): nothing is proposed", 0, x.resend(0));
        Check.due("propose(0)", 1, x.propose(0));
        dueLetter(x, 0, 2, 0, 0, 4, 1, 4);
        deliverAll(x);
        Check.due("decided(0, 1)", 4, x.decided(0, 1));
        dueRead(x, 0, 1, 3);
    }

    private static void campaignLetters() {
        LogHouse x = new LogHouse();
        x.up(3, false);
        x.wipe(4);
        x.campaign(1);
        Check.due("letters()", 7, x.letters());
        for (int s = 0; s < 7; s++) {
            dueLetter(x, s, 0, s, 1, 3, -1, -1);
        }
        for (int k = 0; k < 8; k++) {
            x.campaign(1);
        }
        Check.due("letters() with the row full", 60, x.letters());
        dueLetter(x, 59, 0, 3, 1, 19, -1, -1);
        Check.due("campaign(1) without room", 21, x.campaign(1));
        Check.due("letters()", 60, x.letters());
        dueLetter(x, 59, 0, 3, 1, 19, -1, -1);
    }

    // ---- promise 4

    private static void propose() {
        LogHouse x = led(1);
        write(x, 1, 10, 20, 30, 40);
        Check.due("propose(1)", 0, x.propose(1));
        Check.due("letters()", 7, x.letters());
        for (int s = 0; s < 7; s++) {
            dueLetter(x, s, 2, s, 1, 3, 0, 3);
        }
        Check.dueState("propose(1): nothing is written then", () -> x.propose(1));
        write(x, 1, 50);
        Check.due("propose(1)", 1, x.propose(1));
        dueLetter(x, 13, 2, 6, 1, 3, 1, 3);
        deliverAll(x);
        dueRead(x, 1, 0, 10, 20, 30, 40);
        dueRead(x, 1, 1, 50);
        write(x, 1, 60);
        Check.due("propose(1): places decided are not free", 2, x.propose(1));
    }

    private static void proposeRefused() {
        LogHouse x = new LogHouse();
        write(x, 0, 7);
        Check.dueState("propose(0) IDLE", () -> x.propose(0));
        x.campaign(0);
        Check.dueState("propose(0) CAMPAIGNING", () -> x.propose(0));
        deliverAll(x);
        for (int p : NO_PROPOSERS) {
            Check.dueArgument("propose(" + p + ")", () -> x.propose(p));
        }
        Check.dueState("propose(1) IDLE", () -> x.propose(1));
        Check.due("propose(0): the report is written still", 0, x.propose(0));
        dropAll(x);
        Check.dueState("propose(0) without a report", () -> x.propose(0));
        for (int place = 1; place < 8; place++) {
            write(x, 0, place);
            Check.due("propose(0)", place, x.propose(0));
            dropAll(x);
        }
        write(x, 0, 99);
        Check.dueState("propose(0) without a free place", () -> x.propose(0));
        Check.due("letters()", 0, x.letters());
        x.campaign(0);
        deliverAll(x);
        Check.due("propose(0): the report is written still", 0, x.propose(0));
        deliverAll(x);
        dueRead(x, 0, 0, 99);
    }

    private static void proposeOverflow() {
        LogHouse x = led(0);
        x.campaign(1);
        for (int k = 0; k < 49; k++) {
            x.twin(0);
        }
        write(x, 0, 5);
        Check.due("propose(0) with room for four", 0, x.propose(0));
        Check.due("letters()", 60, x.letters());
        dueLetter(x, 59, 2, 3, 0, 2, 0, 2);
        write(x, 0, 6);
        Check.due("propose(0) without room", 1, x.propose(0));
        dueLetter(x, 59, 2, 3, 0, 2, 0, 2);
        dropAll(x);
        Check.due("resend(0): those lost too", 14, x.resend(0));
    }

    // ---- promise 5

    private static void resendPrepares() {
        LogHouse x = new LogHouse();
        Check.due("resend(0) IDLE", 0, x.resend(0));
        for (int p : NO_PROPOSERS) {
            Check.dueArgument("resend(" + p + ")", () -> x.resend(p));
        }
        x.campaign(0);
        deliverOnly(x, 0, 1, 5);
        Check.due("letters()", 2, x.letters());
        Check.due("resend(0): no promise has come yet", 7, x.resend(0));
        x.deliver(0);
        x.deliver(0);
        dropAll(x);
        Check.due("resend(0)", 5, x.resend(0));
        int[] without = {0, 2, 3, 4, 6};
        for (int k = 0; k < 5; k++) {
            dueLetter(x, k, 0, without[k], 0, 2, -1, -1);
        }
        deliverAll(x);
        Check.due("resend(0) LEADING", 0, x.resend(0));
        for (int k = 0; k < 8; k++) {
            x.campaign(1);
        }
        Check.due("letters()", 56, x.letters());
        Check.due("resend(1) with room for four", 4, x.resend(1));
        Check.due("resend(1) without room", 0, x.resend(1));
    }

    private static void resendAccepts() {
        LogHouse x = led(0);
        for (int place = 0; place < 3; place++) {
            write(x, 0, 10 + place, 20, 30, 40);
            x.propose(0);
        }
        for (int k = 0; k < 21; k++) {
            x.deliver(0);
        }
        for (int k = 0; k < 5; k++) {
            x.deliver(7);
        }
        x.deliver(2);
        x.deliver(5);
        dropAll(x);
        Check.due("decided(0, 1)", 2, x.decided(0, 1));
        Check.due("resend(0)", 12, x.resend(0));
        int[] first = {0, 1, 3, 4, 5};
        for (int k = 0; k < 5; k++) {
            dueLetter(x, k, 2, first[k], 0, 2, 0, 2);
        }
        for (int s = 0; s < 7; s++) {
            dueLetter(x, 5 + s, 2, s, 0, 2, 2, 2);
        }
        deliverAll(x);
        Check.due("resend(0): all decided", 0, x.resend(0));
        dueRead(x, 0, 0, 10, 20, 30, 40);
        dueRead(x, 0, 2, 12, 20, 30, 40);
    }

    // ---- promise 6

    private static void deliverToStations() {
        LogHouse x = new LogHouse();
        Check.dueIndex("deliver(0) of none", () -> x.deliver(0));
        x.campaign(0);
        x.campaign(1);
        Check.dueIndex("deliver(-1)", () -> x.deliver(-1));
        Check.dueIndex("deliver(14)", () -> x.deliver(14));
        Check.dueIndex("deliver(MAX)", () -> x.deliver(Integer.MAX_VALUE));
        Check.due("deliver(9): PREPARE 3 to station 2", 1, x.deliver(9));
        Check.due("letters()", 14, x.letters());
        dueLetter(x, 13, 1, 2, 1, 3, -1, -1);
        Check.due("deliver(2): PREPARE 2 below the promised", 0, x.deliver(2));
        dueStation(x, 2, 3, 0, 1, 0);
        x.twin(0);
        Check.due("deliver(0): PREPARE 2 to station 0", 1, x.deliver(0));
        Check.due("deliver: PREPARE 2 once more", 1, x.deliver(x.letters() - 2));
        dueStation(x, 0, 2, 0, 1, 0);

        LogHouse y = led(0);
        write(y, 0, 1, 2, 3, 4);
        y.propose(0);
        y.twin(0);
        Check.due("deliver(0): ACCEPT", 1, y.deliver(0));
        dueLetter(y, 7, 3, 0, 0, 2, 0, 2);
        Check.due("deliver: ACCEPT once more", 1, y.deliver(6));
        dueLetter(y, 7, 3, 0, 0, 2, 0, 2);
        y.campaign(1);
        y.deliver(8);
        y.deliver(8);
        dueStation(y, 1, 3, 0, 1, 0);
        Check.due("deliver(0): ACCEPT 2 below the promised 3", 0, y.deliver(0));
        dueShare(y, 1, 0, -1, -1);
        acceptPromises();
    }

    /** An ACCEPT above what was promised is promised with it. */
    private static void acceptPromises() {
        LogHouse x = new LogHouse();
        campaignOver(x, 1, 0, 1, 2, 3, 4);
        write(x, 1, 8);
        x.propose(1);
        dueStation(x, 6, 0, 0, 1, 0);
        x.deliver(6);
        dueStation(x, 6, 3, 1, 1, 0);
        x.campaign(0);
        Check.due("state(0, 1)", 4, x.state(0, 1));
    }

    private static void deliverDownAndWiped() {
        LogHouse x = led(0);
        write(x, 0, 1);
        x.propose(0);
        x.campaign(1);
        x.up(0, false);
        x.wipe(1);
        Check.due("deliver(0) to one that is down", 0, x.deliver(0));
        Check.due("deliver(0) to one that was wiped", 0, x.deliver(0));
        Check.due("deliver(5) to one that is down", 0, x.deliver(5));
        Check.due("deliver(5) to one that was wiped", 0, x.deliver(5));
        Check.due("letters()", 10, x.letters());
        dueStation(x, 0, 2, 0, 0, 0);
        dueStation(x, 1, 0, 0, 1, 1);
        x.up(1, false);
        x.up(1, true);
        x.up(0, true);
        dropAll(x);
        x.resend(0);
        Check.due("deliver(0) to one that is up again", 1, x.deliver(0));
        Check.due("deliver(0): wiped for ever", 0, x.deliver(0));
        dueShare(x, 0, 0, 2, 2, 1, 1);
        x.up(0, false);
        Check.due("ACCEPTED of one that is down", 0, x.deliver(5));
        Check.due("resend(0): it counts", 6, x.resend(0));
    }

    private static void deliverPromises() {
        LogHouse x = new LogHouse();
        x.campaign(0);
        for (int s = 0; s < 7; s++) {
            x.deliver(0);
        }
        x.twin(0);
        Check.due("deliver(0): PROMISE", 0, x.deliver(0));
        x.deliver(6);
        dueState(x, 0, 1, 2, -1, 1);
        for (int k = 2; k <= 4; k++) {
            x.deliver(0);
            dueState(x, 0, 1, 2, -1, k);
        }
        x.up(4, false);
        x.wipe(5);
        Check.due("deliver(0): the fifth", 0, x.deliver(0));
        dueState(x, 0, 2, 2, 0, 5);
        x.deliver(0);
        x.deliver(0);
        dueState(x, 0, 2, 2, 0, 5);

        LogHouse y = new LogHouse();
        y.campaign(0);
        for (int s = 0; s < 7; s++) {
            y.deliver(0);
        }
        y.campaign(0);
        for (int k = 0; k < 7; k++) {
            y.deliver(0);
        }
        dueState(y, 0, 1, 4, -1, 0);
        deliverAll(y);
        dueState(y, 0, 2, 4, 0, 5);
        dueState(y, 1, 0, 0, -1, 0);
    }

    private static void deliverPromiseIsOfItsTime() {
        LogHouse x = new LogHouse();
        x.campaign(1);
        for (int s = 0; s < 7; s++) {
            x.deliver(0);
        }
        x.campaign(0);
        for (int s = 0; s < 7; s++) {
            x.deliver(7);
        }
        for (int k = 0; k < 7; k++) {
            x.deliver(7);
        }
        write(x, 0, 9);
        x.propose(0);
        for (int s = 0; s < 7; s++) {
            x.deliver(7);
        }
        for (int k = 0; k < 5; k++) {
            Check.due("deliver(0): promises from before the acceptances", 0, x.deliver(0));
        }
        dueState(x, 1, 2, 3, 0, 5);

        LogHouse y = acceptedBy(new int[] {1, 2, 3, 4}, 0, 1, 2);
        y.campaign(1);
        for (int s = 0; s < 7; s++) {
            y.deliver(0);
        }
        for (int s = 0; s < 3; s++) {
            y.wipe(s);
        }
        for (int k = 0; k < 4; k++) {
            y.deliver(0);
        }
        Check.due("deliver(0): promises keep what was wiped since", 7, y.deliver(0));
        dueLetter(y, 2, 2, 0, 1, 3, 0, 2);
    }

    private static void deliverTakesThreeShares() {
        int[] bytes = {11, 22, 33, 44, 55, 66, 77};
        int[][] three = {{0, 1, 2}, {0, 3, 6}, {2, 4, 5}, {4, 5, 6}, {1, 3, 4}};
        int[][] others = {{3, 4}, {1, 5}, {0, 6}, {0, 1}, {2, 6}};
        for (int k = 0; k < three.length; k++) {
            int[] t = three[k];
            int[] o = others[k];
            LogHouse x = acceptedBy(bytes, t);
            Check.due("the fifth promise, with three shares", 7, campaignOver(x, 1, t[0], t[1], t[2], o[0], o[1]));
            dueState(x, 1, 2, 3, 1, 5);
            for (int s = 0; s < 7; s++) {
                dueLetter(x, s, 2, s, 1, 3, 0, 2);
            }
            deliverAll(x);
            Check.due("decided(1, 0)", 2, x.decided(1, 0));
            dueShare(x, t[0], 0, 3, 2, 7);
            dueRead(x, 1, 0, bytes);

            LogHouse y = acceptedBy(bytes, t[0], t[1]);
            Check.due("the fifth promise, with two shares", 0, campaignOver(y, 1, t[0], t[1], t[2], o[0], o[1]));
            dueState(y, 1, 2, 3, 0, 5);
        }
        LogHouse z = acceptedBy(bytes, 0, 1, 2, 3);
        Check.due("two of four shares among the five", 0, campaignOver(z, 1, 2, 3, 4, 5, 6));
        write(z, 1, 5);
        Check.due("propose(1) over what was not seen", 0, z.propose(1));
        deliverAll(z);
        Check.due("decided(1, 0)", 3, z.decided(1, 0));
        dueRead(z, 1, 0, 5);
    }

    private static void deliverLeadsOverTwoReports() {
        LogHouse x = acceptedBy(new int[] {1, 2, 3}, 0, 1, 2, 3);
        campaignOver(x, 1, 2, 3, 4, 5, 6);
        write(x, 1, 7, 8, 9, 10);
        x.propose(1);
        deliverOnly(x, 2, 5, 6);
        dropAll(x);
        Check.due("the older one has the shares", 7, campaignOver(x, 0, 0, 1, 2, 5, 6));
        dueLetter(x, 0, 2, 0, 0, 4, 0, 2);
        deliverOnly(x, 2, 6);
        dropAll(x);
        dueShare(x, 6, 0, 4, 2, 3);
        dueShare(x, 5, 0, 3, 3, 4);
        Check.due("shares of ballots 2 and 4 are of one report", 7, campaignOver(x, 1, 0, 1, 4, 5, 6));
        dueLetter(x, 0, 2, 0, 1, 5, 0, 2);
        deliverAll(x);
        Check.due("decided(1, 0)", 2, x.decided(1, 0));
        dueRead(x, 1, 0, 1, 2, 3);

        LogHouse y = acceptedBy(new int[] {1, 2, 3}, 0, 1);
        campaignOver(y, 1, 2, 3, 4, 5, 6);
        write(y, 1, 7, 8, 9, 10);
        y.propose(1);
        deliverOnly(y, 2, 4, 5, 6);
        dropAll(y);
        Check.due("the newer one has the shares", 7, campaignOver(y, 0, 0, 1, 4, 5, 6));
        dueLetter(y, 0, 2, 0, 0, 4, 0, 3);
        deliverAll(y);
        dueRead(y, 0, 0, 7, 8, 9, 10);
    }

    private static void deliverLeadsWithManyPlaces() {
        LogHouse x = led(0);
        for (int place = 0; place < 8; place++) {
            write(x, 0, place + 1);
            x.propose(0);
            for (int s = 0; s < 7 && place != 3; s++) {
                x.deliver(0);
            }
            dropAll(x);
        }
        x.campaign(1);
        for (int s = 0; s < 7; s++) {
            x.deliver(0);
        }
        for (int k = 0; k < 4; k++) {
            x.deliver(0);
        }
        Check.due("deliver(0): seven places", 49, x.deliver(0));
        dueState(x, 1, 2, 3, 3, 5);
        dueLetter(x, 2, 2, 0, 1, 3, 0, 2);
        dueLetter(x, 22, 2, 6, 1, 3, 2, 2);
        dueLetter(x, 23, 2, 0, 1, 3, 4, 2);
        dueLetter(x, 50, 2, 6, 1, 3, 7, 2);
        x.campaign(0);
        Check.due("letters()", 58, x.letters());
        dropAll(x);
        for (int k = 0; k < 2; k++) {
            x.campaign(1);
            x.campaign(0);
        }
        x.campaign(1);
        for (int k = 0; k < 28; k++) {
            x.drop(0);
        }
        for (int s = 0; s < 7; s++) {
            x.deliver(0);
        }
        for (int k = 0; k < 20; k++) {
            x.twin(0);
        }
        for (int k = 0; k < 4; k++) {
            x.deliver(0);
        }
        Check.due("letters()", 23, x.letters());
        Check.due("deliver(0) with room for 38", 38, x.deliver(0));
        Check.due("letters()", 60, x.letters());
    }

    private static void deliverAccepted() {
        LogHouse x = led(0);
        write(x, 0, 1);
        x.propose(0);
        for (int s = 0; s < 7; s++) {
            x.deliver(0);
        }
        x.twin(0);
        x.twin(0);
        x.deliver(0);
        x.deliver(6);
        x.deliver(6);
        for (int k = 2; k <= 4; k++) {
            x.deliver(0);
            Check.due("decided(0, 0) with " + k, 0, x.decided(0, 0));
        }
        Check.due("deliver(0): the fifth", 0, x.deliver(0));
        Check.due("decided(0, 0)", 2, x.decided(0, 0));
        Check.due("decided(1, 0)", 0, x.decided(1, 0));
        Check.due("deliver(0): the sixth", 0, x.deliver(0));
        Check.due("decided(0, 0)", 2, x.decided(0, 0));

        LogHouse y = led(0);
        write(y, 0, 1);
        y.propose(0);
        for (int s = 0; s < 7; s++) {
            y.deliver(0);
        }
        y.campaign(0);
        for (int k = 0; k < 7; k++) {
            y.deliver(0);
        }
        Check.due("decided(0, 0): acceptances of an old ballot", 0, y.decided(0, 0));
        deliverAll(y);
        Check.due("decided(0, 0): proposed again", 2, y.decided(0, 0));
        dueShare(y, 0, 0, 4, 2, 1, 1);
    }

    /** A report proposed again under a new ballot starts without answers, and the old ballot's do not count. */
    private static void deliverAcceptedOfOldBallot() {
        LogHouse x = led(0);
        write(x, 0, 1);
        x.propose(0);
        for (int s = 0; s < 7; s++) {
            x.deliver(0);
        }
        for (int k = 0; k < 4; k++) {
            x.deliver(0);
        }
        x.campaign(0);
        for (int s = 0; s < 7; s++) {
            x.deliver(3);
        }
        for (int k = 0; k < 5; k++) {
            x.deliver(3);
        }
        dueState(x, 0, 2, 4, 1, 5);
        dueLetter(x, 0, 3, 4, 0, 2, 0, 2);
        dueLetter(x, 5, 2, 0, 0, 4, 0, 2);
        for (int k = 0; k < 3; k++) {
            x.deliver(0);
        }
        Check.due("decided(0, 0): acceptances of the old ballot", 0, x.decided(0, 0));
        dropAll(x);
        Check.due("resend(0): none has answered", 7, x.resend(0));
        for (int s = 0; s < 7; s++) {
            x.deliver(0);
        }
        for (int k = 0; k < 4; k++) {
            x.deliver(0);
            Check.due("decided(0, 0) with " + (k + 1), 0, x.decided(0, 0));
        }
        x.deliver(0);
        Check.due("decided(0, 0) with 5", 2, x.decided(0, 0));
    }

    // ---- promises 7 to 10

    private static void drop() {
        LogHouse x = new LogHouse();
        Check.dueIndex("drop(0) of none", () -> x.drop(0));
        x.campaign(0);
        x.drop(3);
        Check.due("letters()", 6, x.letters());
        dueLetter(x, 2, 0, 2, 0, 2, -1, -1);
        dueLetter(x, 3, 0, 4, 0, 2, -1, -1);
        dueStation(x, 3, 0, 0, 1, 0);
        x.drop(5);
        dueLetter(x, 4, 0, 5, 0, 2, -1, -1);
        for (int i : new int[] {5, -1, 60, Integer.MAX_VALUE, Integer.MIN_VALUE}) {
            Check.dueIndex("drop(" + i + ")", () -> x.drop(i));
        }
        Check.due("letters()", 5, x.letters());
    }

    private static void twin() {
        LogHouse x = new LogHouse();
        Check.dueIndex("twin(0) of none", () -> x.twin(0));
        x.campaign(1);
        x.twin(4);
        Check.due("letters()", 8, x.letters());
        dueLetter(x, 4, 0, 4, 1, 3, -1, -1);
        dueLetter(x, 7, 0, 4, 1, 3, -1, -1);
        for (int i : new int[] {8, -1, 60, Integer.MAX_VALUE, Integer.MIN_VALUE}) {
            Check.dueIndex("twin(" + i + ")", () -> x.twin(i));
        }
        for (int k = 8; k < 60; k++) {
            x.twin(k - 1);
        }
        Check.due("letters()", 60, x.letters());
        Check.dueState("twin(0) without room", () -> x.twin(0));
        Check.dueState("twin(59) without room", () -> x.twin(59));
        Check.dueIndex("twin(60) without room", () -> x.twin(60));
        Check.due("letters()", 60, x.letters());
        Check.due("deliver(59) with the row full", 1, x.deliver(59));
        Check.due("letters()", 60, x.letters());
        dueLetter(x, 59, 1, 4, 1, 3, -1, -1);
        x.drop(0);
        x.twin(58);
        dueLetter(x, 59, 1, 4, 1, 3, -1, -1);
    }

    private static void twinKeepsContents() {
        LogHouse x = led(0);
        write(x, 0, 1, 2, 3, 4, 5);
        x.propose(0);
        for (int s = 0; s < 7; s++) {
            x.twin(s);
        }
        for (int s = 0; s < 7; s++) {
            x.drop(0);
        }
        for (int s = 0; s < 7; s++) {
            dueLetter(x, 0, 2, s, 0, 2, 0, 2);
            x.deliver(0);
        }
        for (int s = 0; s < 7; s++) {
            x.twin(s);
        }
        for (int s = 0; s < 7; s++) {
            x.drop(0);
        }
        deliverAll(x);
        dueRead(x, 0, 0, 1, 2, 3, 4, 5);
        x.campaign(1);
        for (int s = 0; s < 7; s++) {
            x.deliver(0);
        }
        for (int s = 0; s < 7; s++) {
            x.twin(s);
        }
        for (int s = 0; s < 7; s++) {
            x.drop(0);
        }
        for (int k = 0; k < 4; k++) {
            x.deliver(0);
        }
        Check.due("deliver(0): twins of promises have the shares", 7, x.deliver(0));
        deliverAll(x);
        dueRead(x, 1, 0, 1, 2, 3, 4, 5);
    }

    private static void letters() {
        LogHouse x = new LogHouse();
        Check.due("letters()", 0, x.letters());
        x.campaign(0);
        Check.due("letters()", 7, x.letters());
        x.deliver(0);
        Check.due("letters()", 7, x.letters());
        x.deliver(6);
        Check.due("letters()", 6, x.letters());
        x.drop(0);
        Check.due("letters()", 5, x.letters());
        x.twin(0);
        Check.due("letters()", 6, x.letters());
    }

    private static void letter() {
        LogHouse x = led(1);
        Check.dueIndex("letter(0, 0) of none", () -> x.letter(0, 0));
        write(x, 1, 1);
        x.propose(1);
        dropAll(x);
        write(x, 1, 2);
        x.propose(1);
        x.deliver(2);
        x.campaign(0);
        x.deliver(11);
        dueLetter(x, 2, 2, 3, 1, 3, 1, 3);
        dueLetter(x, 6, 3, 2, 1, 3, 1, 3);
        dueLetter(x, 7, 0, 0, 0, 4, -1, -1);
        dueLetter(x, 13, 1, 4, 0, 4, -1, -1);
        for (int what : new int[] {-1, 6, 7, Integer.MAX_VALUE, Integer.MIN_VALUE}) {
            Check.dueArgument("letter(0, " + what + ")", () -> x.letter(0, what));
            Check.dueIndex("letter(14, " + what + ")", () -> x.letter(14, what));
        }
        for (int i : new int[] {-1, 14, 60, Integer.MAX_VALUE, Integer.MIN_VALUE}) {
            Check.dueIndex("letter(" + i + ", 0)", () -> x.letter(i, 0));
        }
    }

    // ---- promises 11 to 13

    private static void up() {
        LogHouse x = settled(1, 2, 3);
        Check.due("up(2, true)", false, x.up(2, true));
        Check.due("up(2, false)", true, x.up(2, false));
        Check.due("up(2, false)", false, x.up(2, false));
        dueStation(x, 2, 2, 1, 0, 0);
        dueStation(x, 1, 2, 1, 1, 0);
        dueShare(x, 2, 0, 2, 2, 3);
        Check.due("up(2, true)", true, x.up(2, true));
        Check.due("up(2, true)", false, x.up(2, true));
        dueStation(x, 2, 2, 1, 1, 0);
        dueShare(x, 2, 0, 2, 2, 3);
        Check.due("up(0, false)", true, x.up(0, false));
        Check.due("up(6, false)", true, x.up(6, false));
        for (int s : NO_STATIONS) {
            Check.dueArgument("up(" + s + ", true)", () -> x.up(s, true));
            Check.dueArgument("up(" + s + ", false)", () -> x.up(s, false));
        }
    }

    private static void wipe() {
        LogHouse x = settled(1, 2, 3);
        x.wipe(3);
        dueStation(x, 3, 0, 0, 1, 1);
        dueShare(x, 3, 0, -1, -1, -1, -1);
        dueStation(x, 2, 2, 1, 1, 0);
        x.up(0, false);
        x.wipe(0);
        dueStation(x, 0, 0, 0, 0, 1);
        x.up(0, true);
        dueStation(x, 0, 0, 0, 1, 1);
        x.catchUp(3, 0);
        dueStation(x, 3, 0, 1, 1, 1);
        x.wipe(3);
        dueStation(x, 3, 0, 0, 1, 1);
        Check.due("catchUp(3, 0)", 1, x.catchUp(3, 0));
        for (int s : NO_STATIONS) {
            Check.dueArgument("wipe(" + s + ")", () -> x.wipe(s));
        }
    }

    private static void catchUp() {
        LogHouse x = led(0);
        for (int place = 0; place < 3; place++) {
            write(x, 0, 70 + place, 80, 90, 100);
            x.propose(0);
            deliverAll(x);
        }
        write(x, 0, 5);
        x.propose(0);
        deliverOnly(x, 2, 0, 1, 2, 3, 4, 5, 6);
        dropAll(x);
        int[] before = {x.share(5, 1, 3), x.share(5, 1, 4)};
        Check.dueState("catchUp(5, 0): not wiped", () -> x.catchUp(5, 0));
        x.wipe(5);
        Check.due("catchUp(5, 1): it knows nothing", 0, x.catchUp(5, 1));
        x.up(5, false);
        Check.dueState("catchUp(5, 0): DOWN", () -> x.catchUp(5, 0));
        x.up(5, true);
        Check.due("catchUp(5, 0)", 3, x.catchUp(5, 0));
        Check.due("catchUp(5, 0) again", 0, x.catchUp(5, 0));
        dueShare(x, 5, 1, 0, 2, 4, before[0], before[1], -1);
        dueShare(x, 5, 3, -1, -1);
        dueStation(x, 5, 0, 6, 1, 1);
        for (int s : NO_STATIONS) {
            Check.dueArgument("catchUp(" + s + ", 0)", () -> x.catchUp(s, 0));
        }
        for (int p : NO_PROPOSERS) {
            Check.dueArgument("catchUp(5, " + p + ")", () -> x.catchUp(5, p));
            Check.dueArgument("catchUp(4, " + p + ")", () -> x.catchUp(4, p));
        }
    }

    private static void catchUpNeedsThree() {
        LogHouse x = settled(1, 2, 3, 4, 5, 6, 7);
        x.wipe(6);
        for (int s = 0; s < 4; s++) {
            x.up(s, false);
        }
        Check.due("catchUp(6, 0) from two", 0, x.catchUp(6, 0));
        dueShare(x, 6, 0, -1);
        x.up(1, true);
        Check.due("catchUp(6, 0) from three", 1, x.catchUp(6, 0));
        LogHouse y = led(0);
        write(y, 0, 1, 2, 3);
        y.propose(0);
        y.drop(0);
        y.drop(0);
        deliverAll(y);
        y.wipe(6);
        y.up(5, false);
        Check.due("catchUp(6, 0): 2, 3, 4 have shares", 1, y.catchUp(6, 0));
        y.wipe(6);
        y.up(4, false);
        Check.due("catchUp(6, 0): 0 and 1 have none", 0, y.catchUp(6, 0));
    }

    private static void catchUpFromCaughtUp() {
        LogHouse x = settled(201, 202, 203, 204);
        for (int s = 0; s < 4; s++) {
            x.wipe(s);
            Check.due("catchUp(" + s + ", 0)", 1, x.catchUp(s, 0));
        }
        for (int s = 4; s < 7; s++) {
            x.up(s, false);
        }
        dueRead(x, 0, 0, 201, 202, 203, 204);
        x.wipe(3);
        Check.due("catchUp(3, 0) from shares taken anew", 1, x.catchUp(3, 0));
        dueShare(x, 3, 0, 0, 2, 4);
        x.wipe(0);
        dueRead(x, 0, 0, 201, 202, 203, 204);
        x.wipe(1);
        Check.dueState("read(0, 0) of two", () -> x.read(0, 0));
        Check.due("catchUp(1, 0) from two", 0, x.catchUp(1, 0));
    }

    // ---- promises 14 to 16

    private static void decided() {
        LogHouse x = settled(1);
        Check.due("decided(0, 0)", 2, x.decided(0, 0));
        Check.due("decided(0, 1)", 0, x.decided(0, 1));
        Check.due("decided(0, 7)", 0, x.decided(0, 7));
        Check.due("decided(1, 0)", 0, x.decided(1, 0));
        x.campaign(1);
        deliverAll(x);
        Check.due("decided(1, 0)", 2, x.decided(1, 0));
        write(x, 1, 2);
        x.propose(1);
        deliverAll(x);
        Check.due("decided(1, 1)", 3, x.decided(1, 1));
        for (int s = 0; s < 7; s++) {
            x.wipe(s);
        }
        x.campaign(0);
        Check.due("decided(0, 0) for ever", 2, x.decided(0, 0));
        for (int p : NO_PROPOSERS) {
            Check.dueArgument("decided(" + p + ", 0)", () -> x.decided(p, 0));
        }
        for (int place : NO_PLACES) {
            Check.dueArgument("decided(0, " + place + ")", () -> x.decided(0, place));
        }
    }

    private static void read() {
        LogHouse x = settled(5, 6, 7, 8);
        Check.dueThrow("read(1, 0)", NoSuchElementException.class, () -> x.read(1, 0));
        Check.dueThrow("read(0, 1)", NoSuchElementException.class, () -> x.read(0, 1));
        dueRead(x, 0, 0, 5, 6, 7, 8);
        for (int s = 0; s < 4; s++) {
            x.up(s, false);
            x.wipe(s);
            if (s < 3) {
                dueRead(x, 0, 0, 5, 6, 7, 8);
            }
        }
        dueRead(x, 0, 0, 5, 6, 7, 8);
        x.up(6, false);
        Check.dueState("read(0, 0) of two", () -> x.read(0, 0));
        Check.due("readByte(3): that was read last", 8, x.readByte(3));
        Check.dueThrow("read(0, 7)", NoSuchElementException.class, () -> x.read(0, 7));
        for (int p : NO_PROPOSERS) {
            Check.dueArgument("read(" + p + ", 0)", () -> x.read(p, 0));
        }
        for (int place : NO_PLACES) {
            Check.dueArgument("read(0, " + place + ")", () -> x.read(0, place));
            Check.dueArgument("read(1, " + place + ")", () -> x.read(1, place));
        }
    }

    private static void readLengths() {
        for (int length = 1; length <= 24; length++) {
            LogHouse x = led(0);
            int[] bytes = new int[length];
            for (int i = 0; i < length; i++) {
                bytes[i] = 37 * (i + length) & 255;
            }
            write(x, 0, bytes);
            x.propose(0);
            deliverAll(x);
            for (int s = 0; s < 7; s++) {
                dueStation(x, s, 2, (length + 2) / 3, 1, 0);
            }
            int down = 4 + length % 3;
            for (int k = 0; k < 4; k++) {
                x.up((k * 2 + down) % 7, false);
            }
            dueRead(x, 0, 0, bytes);
        }
    }

    private static void readByte() {
        LogHouse x = settled(250, 0, 251, 252);
        Check.dueIndex("readByte(0) before a read", () -> x.readByte(0));
        write(x, 0, 1);
        x.propose(0);
        deliverAll(x);
        x.read(0, 0);
        Check.due("readByte(0)", 250, x.readByte(0));
        Check.due("readByte(3)", 252, x.readByte(3));
        for (int i : new int[] {4, 5, -1, 24, Integer.MAX_VALUE, Integer.MIN_VALUE}) {
            Check.dueIndex("readByte(" + i + ")", () -> x.readByte(i));
        }
        x.read(0, 1);
        Check.due("readByte(0)", 1, x.readByte(0));
        Check.dueIndex("readByte(1)", () -> x.readByte(1));
        for (int s = 0; s < 7; s++) {
            x.wipe(s);
        }
        Check.due("readByte(0) after all is lost", 1, x.readByte(0));
    }

    // ---- promises 17 to 19

    private static void state() {
        LogHouse x = new LogHouse();
        dueState(x, 0, 0, 0, -1, 0);
        x.campaign(1);
        dueState(x, 1, 1, 3, -1, 0);
        dueState(x, 0, 0, 0, -1, 0);
        deliverAll(x);
        dueState(x, 1, 2, 3, 0, 5);
        for (int place = 0; place < 8; place++) {
            write(x, 1, place);
            x.propose(1);
            dueState(x, 1, 2, 3, place < 7 ? place + 1 : -1, 5);
            dropAll(x);
        }
        x.campaign(1);
        dueState(x, 1, 1, 5, -1, 0);
        for (int p : NO_PROPOSERS) {
            Check.dueArgument("state(" + p + ", 0)", () -> x.state(p, 0));
        }
        for (int what : new int[] {-1, 4, 5, Integer.MAX_VALUE, Integer.MIN_VALUE}) {
            Check.dueArgument("state(0, " + what + ")", () -> x.state(0, what));
        }
    }

    private static void station() {
        LogHouse x = led(0);
        write(x, 0, 1);
        x.propose(0);
        write(x, 0, 1, 2, 3, 4, 5, 6, 7);
        x.propose(0);
        deliverAll(x);
        dueStation(x, 0, 2, 4, 1, 0);
        dueStation(x, 6, 2, 4, 1, 0);
        x.campaign(1);
        x.deliver(6);
        dueStation(x, 6, 3, 4, 1, 0);
        for (int s : NO_STATIONS) {
            Check.dueArgument("station(" + s + ", 0)", () -> x.station(s, 0));
        }
        for (int what : new int[] {-1, 4, 5, Integer.MAX_VALUE, Integer.MIN_VALUE}) {
            Check.dueArgument("station(0, " + what + ")", () -> x.station(0, what));
        }
    }

    private static void share() {
        LogHouse x = settled(1, 2, 3, 4);
        dueShare(x, 0, 0, 2, 2, 4, 1 ^ 3, 2 ^ 4, -1, -1);
        dueShare(x, 0, 1, -1, -1, -1, -1);
        Check.due("share(0, 0, MAX)", -1, x.share(0, 0, Integer.MAX_VALUE));
        Check.due("share(0, 7, MAX)", -1, x.share(0, 7, Integer.MAX_VALUE));
        x.campaign(1);
        deliverAll(x);
        dueShare(x, 0, 0, 3, 2, 4, 1 ^ 3, 2 ^ 4, -1);
        for (int s : NO_STATIONS) {
            Check.dueArgument("share(" + s + ", 0, 0)", () -> x.share(s, 0, 0));
        }
        for (int place : NO_PLACES) {
            Check.dueArgument("share(0, " + place + ", 0)", () -> x.share(0, place, 0));
        }
        for (int what : new int[] {-1, -2, Integer.MIN_VALUE}) {
            Check.dueArgument("share(0, 0, " + what + ")", () -> x.share(0, 0, what));
            Check.dueArgument("share(0, 1, " + what + ")", () -> x.share(0, 1, what));
        }
    }

    /** Eight bytes in each piece, with values whose products are reduced. */
    private static void shareCoding() {
        int[] bytes = new int[24];
        for (int i = 0; i < 24; i++) {
            bytes[i] = 255 - 11 * i & 255;
        }
        LogHouse x = settled(bytes);
        for (int s = 0; s < 7; s++) {
            int square = slowProduct(s + 1, s + 1);
            for (int i = 0; i < 8; i++) {
                int want = bytes[i] ^ slowProduct(bytes[8 + i], s + 1) ^ slowProduct(bytes[16 + i], square);
                Check.due("share(" + s + ", 0, " + (3 + i) + ")", want, x.share(s, 0, 3 + i));
            }
            Check.due("share(" + s + ", 0, 11)", -1, x.share(s, 0, 11));
        }
        Check.due("the field's product of 0x57 and 0x83", 0xC1, slowProduct(0x57, 0x83));
    }
}
