/**
 * The sentences of the document before its promises ('What it is' and 'Terms') that name an edge: a test of its own
 * for each. What the sentences of the promises name is in EdgesOfCallsTest.
 */
public final class EdgesOfTermsTest extends Scenes {
    public static void main(String[] args) {
        Check.sentence("at most 512 calls after it has been made", EdgesOfTermsTest::fiveHundredTwelveCalls);
        Check.sentence("STATIONS are 0 .. 6", EdgesOfTermsTest::stations);
        Check.sentence("PROPOSERS 0, 1", EdgesOfTermsTest::proposers);
        Check.sentence("PLACES 0 .. 7", EdgesOfTermsTest::places);
        reports();
        letters();
        stationsAndLetters();
        promises();
        sharesInPromises();
        acceptances();
        Check.end("EdgesOfTermsTest");
    }

    private static void reports() {
        Check.sentence("A REPORT has 1 .. 24 bytes: 1", () -> goesThrough(1));
        Check.sentence("A REPORT has 1 .. 24 bytes: 24", () -> goesThrough(24));
        Check.sentence("pieces of a third of its length each, rounded up", EdgesOfTermsTest::thirdRoundedUp);
        Check.sentence("the bytes in their order, with 0 behind them", EdgesOfTermsTest::zeroBehind);
        Check.sentence("SHARE s is a + b x + c x^2 with x = s + 1", EdgesOfTermsTest::shareOfEachStation);
        Check.sentence("products by the polynomial 0x11B", EdgesOfTermsTest::productsOfAllBytes);
        Check.sentence("any three of which give them again", EdgesOfTermsTest::anyThree);
        Check.sentence("BALLOTS are 2 r + proposer, r = 1, 2, ..", EdgesOfTermsTest::firstBallots);
        Check.sentence("IDENTITY: the ballot at which it was proposed first", EdgesOfTermsTest::identityStays);
        Check.sentence("a PROMISED ballot (0 at first)", EdgesOfTermsTest::promisedAtFirst);
        Check.sentence("what it ACCEPTED last", EdgesOfTermsTest::acceptedLast);
    }

    private static void letters() {
        Check.sentence("at most 60: PREPARE to the brim", EdgesOfTermsTest::preparesToTheBrim);
        Check.sentence("one that has no room is lost: PREPARE", EdgesOfTermsTest::preparesLost);
        Check.sentence("one that has no room is lost: ACCEPT", EdgesOfTermsTest::acceptsLost);
        Check.sentence("one that has no room is lost: ACCEPT of a new leader", EdgesOfTermsTest::newLeadersAcceptsLost);
        Check.sentence("at most 60: PROMISE into a full row", EdgesOfTermsTest::promiseIntoFullRow);
        Check.sentence("at most 60: ACCEPTED into a full row", EdgesOfTermsTest::acceptedIntoFullRow);
        Check.sentence("new ones come behind", EdgesOfTermsTest::newOnesBehind);
        Check.sentence("to several stations, then in their order", EdgesOfTermsTest::inTheStationsOrder);
        Check.sentence("of several places place by place", EdgesOfTermsTest::placeByPlace);
        Check.sentence("all that the station has accepted then", EdgesOfTermsTest::acceptedThen);
    }

    private static void stationsAndLetters() {
        Check.sentence("DOWN does nothing with a PREPARE", EdgesOfTermsTest::downAndPrepare);
        Check.sentence("DOWN does nothing with an ACCEPT", EdgesOfTermsTest::downAndAccept);
        Check.sentence("WIPED does nothing with a PREPARE", EdgesOfTermsTest::wipedAndPrepare);
        Check.sentence("WIPED does nothing with an ACCEPT", EdgesOfTermsTest::wipedAndAccept);
        Check.sentence("a letter of one that is DOWN or was WIPED", EdgesOfTermsTest::lettersOfDownAndWiped);
        Check.sentence("PREPARE below the promised ballot", EdgesOfTermsTest::prepareBelow);
        Check.sentence("PREPARE of the promised ballot", EdgesOfTermsTest::prepareEqual);
        Check.sentence("PREPARE above the promised ballot", EdgesOfTermsTest::prepareAbove);
        Check.sentence("ACCEPT below the promised ballot", EdgesOfTermsTest::acceptBelow);
        Check.sentence("ACCEPT of the promised ballot", EdgesOfTermsTest::acceptEqual);
        Check.sentence("ACCEPT above the promised ballot", EdgesOfTermsTest::acceptAbove);
    }

    private static void promises() {
        Check.sentence("A proposer is IDLE at first", EdgesOfTermsTest::idleAtFirst);
        Check.sentence("with the fifth it is LEADING: the fourth", EdgesOfTermsTest::fourthPromise);
        Check.sentence("with the fifth it is LEADING: the fifth", EdgesOfTermsTest::fifthPromise);
        Check.sentence("PROMISES, one of each station", EdgesOfTermsTest::promisesOfOneStation);
        Check.sentence("Letters of other ballots: an older PROMISE", EdgesOfTermsTest::olderPromises);
        Check.sentence("what it does not wait for: a sixth PROMISE", EdgesOfTermsTest::sixthPromise);
    }

    private static void sharesInPromises() {
        Check.sentence("shares of three stations: none", () -> sharesAmongFive(0));
        Check.sentence("shares of three stations: one", () -> sharesAmongFive(1));
        Check.sentence("shares of three stations: two", () -> sharesAmongFive(2));
        Check.sentence("shares of three stations: three", () -> sharesAmongFive(3));
        Check.sentence("shares of three stations or more: four", () -> sharesAmongFive(4));
        Check.sentence("shares of three stations or more: five", () -> sharesAmongFive(5));
        Check.sentence("promises (of these five)", EdgesOfTermsTest::sharesOutsideTheFive);
        Check.sentence("those identities: two and three shares", EdgesOfTermsTest::twoNewerThreeOlder);
        Check.sentence("those identities: one identity at three ballots", EdgesOfTermsTest::oneIdentityThreeBallots);
        Check.sentence("that it does not know as decided", EdgesOfTermsTest::decidedIsNotProposedAgain);
        Check.sentence("places without any are FREE: all and none", EdgesOfTermsTest::allFreeAndNoneFree);
    }

    private static void acceptances() {
        Check.sentence("with the fifth the place is DECIDED: the fourth", EdgesOfTermsTest::fourthAccepted);
        Check.sentence("with the fifth the place is DECIDED: the fifth", EdgesOfTermsTest::fifthAccepted);
        Check.sentence("ACCEPTED, one of each station", EdgesOfTermsTest::acceptedOfOneStation);
        Check.sentence("ACCEPTED for each place by itself", EdgesOfTermsTest::acceptedOfTwoPlaces);
        Check.sentence("Letters of other ballots: an older ACCEPTED", EdgesOfTermsTest::olderAccepted);
        Check.sentence("LEADING it takes ACCEPTED: not CAMPAIGNING", EdgesOfTermsTest::acceptedWhileCampaigning);
        Check.sentence("what it does not wait for: a sixth ACCEPTED", EdgesOfTermsTest::sixthAccepted);
        Check.sentence("DECIDED for it, for ever", EdgesOfTermsTest::decidedForEver);
        Check.sentence("DECIDED for it: not for the other", EdgesOfTermsTest::decidedForOneOnly);
    }

    // ---- what it is, and the numbers of all

    private static void fiveHundredTwelveCalls() {
        LogHouse x = new LogHouse();
        for (int k = 1; k <= 256; k++) {
            Check.due("campaign(1), call " + (2 * k - 1), 2 * k + 1, x.campaign(1));
            Check.due("letters(), call " + 2 * k, Math.min(60, 7 * k), x.letters());
        }
        LogHouse y = new LogHouse();
        for (int k = 1; k <= 512; k++) {
            Check.due("campaign(0), call " + k, 2 * k, y.campaign(0));
        }
    }

    private static void stations() {
        LogHouse x = settled(1, 2, 3, 4);
        for (int s = 0; s < 7; s += 6) {
            dueShare(x, s, 0, 2, 2, 4);
            Check.due("up(" + s + ", false)", true, x.up(s, false));
            Check.due("up(" + s + ", true)", true, x.up(s, true));
            x.wipe(s);
            Check.due("catchUp(" + s + ", 0)", 1, x.catchUp(s, 0));
            dueStation(x, s, 0, 2, 1, 1);
        }
        x.campaign(1);
        Check.due("letters(): one for each station", 7, x.letters());
        for (int s : NO_STATIONS) {
            Check.dueArgument("station(" + s + ", 0)", () -> x.station(s, 0));
        }
    }

    private static void proposers() {
        for (int p = 0; p < 2; p++) {
            LogHouse x = new LogHouse();
            write(x, p, 9);
            Check.due("campaign(" + p + ")", 2 + p, x.campaign(p));
            deliverAll(x);
            Check.due("propose(" + p + ")", 0, x.propose(p));
            deliverAll(x);
            dueRead(x, p, 0, 9);
            dueState(x, 1 - p, 0, 0, -1, 0);
        }
        LogHouse y = new LogHouse();
        for (int p : NO_PROPOSERS) {
            Check.dueArgument("state(" + p + ", 0)", () -> y.state(p, 0));
        }
    }

    private static void places() {
        LogHouse x = led(0);
        for (int place = 0; place < 8; place++) {
            write(x, 0, 10 + place);
            Check.due("propose(0)", place, x.propose(0));
            deliverAll(x);
        }
        Check.due("state(0, 2): no ninth place", -1, x.state(0, 2));
        Check.due("decided(0, 7)", 2, x.decided(0, 7));
        dueRead(x, 0, 0, 10);
        dueRead(x, 0, 7, 17);
        for (int place : NO_PLACES) {
            Check.dueArgument("decided(0, " + place + ")", () -> x.decided(0, place));
        }
    }

    // ---- reports, shares, ballots

    private static void goesThrough(int length) {
        int[] bytes = counted(length, 129);
        LogHouse x = settled(bytes);
        dueRead(x, 0, 0, bytes);
        Check.dueIndex("readByte(" + length + ")", () -> x.readByte(length));
        x.campaign(1);
        deliverAll(x);
        dueRead(x, 1, 0, bytes);
    }

    private static void thirdRoundedUp() {
        for (int length = 1; length <= 24; length++) {
            LogHouse x = settled(counted(length, 1));
            int third = length / 3 + (length % 3 == 0 ? 0 : 1);
            for (int s = 0; s < 7; s += 3) {
                Check.due("station(" + s + ", 1) of " + length, third, x.station(s, 1));
                Check.due("the last byte of " + length, true, x.share(s, 0, 3 + third - 1) >= 0);
                Check.due("the byte behind the last of " + length, -1, x.share(s, 0, 3 + third));
            }
        }
    }

    /** Station 0 has the three pieces' sum, in which a byte stands alone where the two others are 0. */
    private static void zeroBehind() {
        dueShare(settled(200), 0, 0, 2, 2, 1, 200, -1);
        dueShare(settled(200), 6, 0, 2, 2, 1, 200, -1);
        dueShare(settled(200, 17), 0, 0, 2, 2, 2, 200 ^ 17, -1);
        dueShare(settled(200, 17), 1, 0, 2, 2, 2, 200 ^ 34, -1);
        dueShare(settled(1, 2, 3, 4), 0, 0, 2, 2, 4, 1 ^ 3, 2 ^ 4, -1);
        dueShare(settled(1, 2, 3, 4, 5), 0, 0, 2, 2, 5, 1 ^ 3 ^ 5, 2 ^ 4, -1);
        dueShare(settled(1, 2, 3, 4, 5, 6, 8), 0, 0, 2, 2, 7, 1 ^ 4 ^ 8, 2 ^ 5, 3 ^ 6, -1);
    }

    private static void shareOfEachStation() {
        LogHouse x = settled(0, 0, 1);
        LogHouse y = settled(0, 1, 0);
        LogHouse z = settled(1, 0, 0);
        int[] squares = {1, 4, 5, 16, 17, 20, 21};
        for (int s = 0; s < 7; s++) {
            dueShare(x, s, 0, 2, 2, 3, squares[s]);
            dueShare(y, s, 0, 2, 2, 3, s + 1);
            dueShare(z, s, 0, 2, 2, 3, 1);
        }
    }

    private static void productsOfAllBytes() {
        dueShare(settled(0, 0x80, 0), 1, 0, 2, 2, 3, 0x1B);
        dueShare(settled(0, 0, 0x80), 1, 0, 2, 2, 3, 0x36);
        for (int from = 0; from < 256; from += 8) {
            int[] bytes = new int[24];
            for (int i = 0; i < 8; i++) {
                bytes[i] = 91 * (from + i) & 255;
                bytes[8 + i] = from + i;
                bytes[16 + i] = 255 - from - i;
            }
            LogHouse x = settled(bytes);
            for (int s = 0; s < 7; s++) {
                int square = slowProduct(s + 1, s + 1);
                for (int i = 0; i < 8; i++) {
                    int want = bytes[i] ^ slowProduct(bytes[8 + i], s + 1) ^ slowProduct(bytes[16 + i], square);
                    Check.due("share(" + s + ", 0, " + (3 + i) + ")", want, x.share(s, 0, 3 + i));
                }
            }
        }
    }

    private static void anyThree() {
        int[] bytes = counted(24, 77);
        for (int three = 0; three < 128; three++) {
            if (Integer.bitCount(three) == 3) {
                LogHouse x = settled(bytes);
                for (int s = 0; s < 7; s++) {
                    x.up(s, (three >> s & 1) == 1);
                }
                dueRead(x, 0, 0, bytes);
            }
        }
    }

    private static void firstBallots() {
        Check.due("campaign(0), r = 1", 2, new LogHouse().campaign(0));
        Check.due("campaign(1), r = 1", 3, new LogHouse().campaign(1));
        LogHouse x = new LogHouse();
        x.campaign(0);
        Check.due("campaign(0), r = 2", 4, x.campaign(0));
        LogHouse y = new LogHouse();
        y.campaign(1);
        Check.due("campaign(1), r = 2", 5, y.campaign(1));
    }

    private static void identityStays() {
        LogHouse x = acceptedBy(new int[] {1, 2, 3}, 0, 1, 2, 3, 4);
        campaignOver(x, 1, 0, 1, 2, 3, 4);
        dueLetter(x, 0, 2, 0, 1, 3, 0, 2);
        deliverAll(x);
        dueShare(x, 0, 0, 3, 2, 3);
        campaignOver(x, 0, 2, 3, 4, 5, 6);
        deliverAll(x);
        dueShare(x, 6, 0, 4, 2, 3);
        Check.due("decided(0, 0)", 2, x.decided(0, 0));
        Check.due("decided(1, 0)", 2, x.decided(1, 0));
    }

    private static void promisedAtFirst() {
        LogHouse x = new LogHouse();
        x.campaign(0);
        x.campaign(1);
        for (int s = 0; s < 7; s++) {
            Check.due("station(" + s + ", 0)", 0, x.station(s, 0));
        }
    }

    private static void acceptedLast() {
        LogHouse x = acceptedBy(new int[] {1, 2, 3, 4}, 0, 1);
        dueShare(x, 0, 0, 2, 2, 4, 1 ^ 3, 2 ^ 4, -1);
        campaignOver(x, 1, 0, 1, 2, 3, 4);
        write(x, 1, 9);
        x.propose(1);
        x.deliver(0);
        dueShare(x, 0, 0, 3, 3, 1, 9, -1);
        dueShare(x, 1, 0, 2, 2, 4);
        Check.due("station(0, 1): one share for a place", 1, x.station(0, 1));
    }

    // ---- the row

    private static void preparesToTheBrim() {
        LogHouse x = new LogHouse();
        x.campaign(1);
        fillUpTo(x, 53);
        x.campaign(0);
        Check.due("letters()", 60, x.letters());
        dueLetter(x, 53, 0, 0, 0, 2, -1, -1);
        dueLetter(x, 59, 0, 6, 0, 2, -1, -1);
    }

    private static void preparesLost() {
        LogHouse x = new LogHouse();
        x.campaign(1);
        fillUpTo(x, 54);
        Check.due("campaign(0) with room for six", 2, x.campaign(0));
        Check.due("letters()", 60, x.letters());
        dueLetter(x, 59, 0, 5, 0, 2, -1, -1);
        Check.due("campaign(0) without room", 4, x.campaign(0));
        Check.due("letters()", 60, x.letters());
        dueLetter(x, 59, 0, 5, 0, 2, -1, -1);
        dropAll(x);
        Check.due("letters(): what was lost does not come later", 0, x.letters());
    }

    private static void acceptsLost() {
        LogHouse x = led(0);
        write(x, 0, 5);
        x.campaign(1);
        fillUpTo(x, 59);
        Check.due("propose(0) with room for one", 0, x.propose(0));
        Check.due("letters()", 60, x.letters());
        dueLetter(x, 59, 2, 0, 0, 2, 0, 2);
        write(x, 0, 6);
        Check.due("propose(0) without room", 1, x.propose(0));
        Check.due("letters()", 60, x.letters());
        dueLetter(x, 59, 2, 0, 0, 2, 0, 2);
    }

    private static void newLeadersAcceptsLost() {
        LogHouse x = acceptedBy(new int[] {1, 2, 3}, 0, 1, 2, 3, 4, 5, 6);
        x.campaign(1);
        deliverFirst(x, 7);
        deliverFirst(x, 4);
        fillUpTo(x, 60);
        Check.due("deliver(0): the fifth, with room for one letter", 1, x.deliver(0));
        Check.due("letters()", 60, x.letters());
        dueLetter(x, 59, 2, 0, 1, 3, 0, 2);
        dueState(x, 1, 2, 3, 1, 5);
        dropAll(x);
        Check.due("resend(1): it is proposed all the same", 7, x.resend(1));
    }

    private static void promiseIntoFullRow() {
        LogHouse x = new LogHouse();
        x.campaign(1);
        fillUpTo(x, 60);
        Check.due("deliver(0): PREPARE", 1, x.deliver(0));
        Check.due("letters()", 60, x.letters());
        dueLetter(x, 59, 1, 0, 1, 3, -1, -1);
    }

    private static void acceptedIntoFullRow() {
        LogHouse x = led(1);
        write(x, 1, 5);
        x.propose(1);
        fillUpTo(x, 60);
        Check.due("deliver(2): ACCEPT", 1, x.deliver(2));
        Check.due("letters()", 60, x.letters());
        dueLetter(x, 59, 3, 2, 1, 3, 0, 3);
    }

    private static void newOnesBehind() {
        LogHouse x = new LogHouse();
        x.campaign(0);
        x.deliver(3);
        dueLetter(x, 5, 0, 6, 0, 2, -1, -1);
        dueLetter(x, 6, 1, 3, 0, 2, -1, -1);
        x.campaign(1);
        dueLetter(x, 6, 1, 3, 0, 2, -1, -1);
        dueLetter(x, 7, 0, 0, 1, 3, -1, -1);
        x.twin(0);
        dueLetter(x, 14, 0, 0, 0, 2, -1, -1);
    }

    private static void inTheStationsOrder() {
        LogHouse x = new LogHouse();
        x.campaign(1);
        for (int s = 0; s < 7; s++) {
            dueLetter(x, s, 0, s, 1, 3, -1, -1);
        }
        deliverAll(x);
        write(x, 1, 1);
        x.propose(1);
        for (int s = 0; s < 7; s++) {
            dueLetter(x, s, 2, s, 1, 3, 0, 3);
        }
    }

    private static void placeByPlace() {
        LogHouse x = led(0);
        write(x, 0, 1);
        x.propose(0);
        write(x, 0, 2);
        x.propose(0);
        deliverFirst(x, 14);
        dropAll(x);
        x.resend(0);
        duePlaceByPlace(x, 0, 2);
        dropAll(x);
        campaignOver(x, 1, 0, 1, 2, 3, 4);
        duePlaceByPlace(x, 1, 3);
    }

    private static void duePlaceByPlace(LogHouse x, int proposer, int ballot) {
        Check.due("letters()", 14, x.letters());
        for (int i = 0; i < 14; i++) {
            dueLetter(x, i, 2, i % 7, proposer, ballot, i / 7, 2);
        }
    }

    private static void acceptedThen() {
        LogHouse x = led(0);
        write(x, 0, 1, 2, 3);
        x.propose(0);
        deliverFirst(x, 2);
        x.campaign(1);
        dropAcceptsAndAccepted(x);
        deliverFirst(x, 7);
        for (int s = 0; s < 2; s++) {
            x.wipe(s);
        }
        deliverFirst(x, 4);
        Check.due("deliver(0): two shares, as they were then", 0, x.deliver(0));
        dueState(x, 1, 2, 3, 0, 5);

        LogHouse y = acceptedBy(new int[] {1, 2, 3}, 0, 1, 2);
        y.campaign(1);
        deliverFirst(y, 7);
        for (int s = 0; s < 3; s++) {
            y.wipe(s);
        }
        deliverFirst(y, 4);
        Check.due("deliver(0): three shares that were lost since", 7, y.deliver(0));
    }

    private static void dropAcceptsAndAccepted(LogHouse x) {
        for (int i = x.letters() - 1; i >= 0; i--) {
            if (x.letter(i, 0) >= 2) {
                x.drop(i);
            }
        }
    }

    // ---- stations and their letters

    private static void downAndPrepare() {
        LogHouse x = new LogHouse();
        x.campaign(0);
        x.up(0, false);
        Check.due("deliver(0) to one that is down", 0, x.deliver(0));
        Check.due("letters()", 6, x.letters());
        dueStation(x, 0, 0, 0, 0, 0);
        x.up(1, false);
        x.up(1, true);
        Check.due("deliver(0) to one that is up again", 1, x.deliver(0));
        dueStation(x, 1, 2, 0, 1, 0);
    }

    private static void downAndAccept() {
        LogHouse x = led(0);
        write(x, 0, 1);
        x.propose(0);
        x.up(0, false);
        Check.due("deliver(0) to one that is down", 0, x.deliver(0));
        Check.due("letters()", 6, x.letters());
        dueShare(x, 0, 0, -1, -1, -1, -1);
        dueStation(x, 0, 2, 0, 0, 0);
        x.up(1, false);
        x.up(1, true);
        Check.due("deliver(0) to one that is up again", 1, x.deliver(0));
        dueShare(x, 1, 0, 2, 2, 1, 1);
    }

    private static void wipedAndPrepare() {
        LogHouse x = new LogHouse();
        x.wipe(0);
        x.campaign(0);
        Check.due("deliver(0) to one that was wiped", 0, x.deliver(0));
        Check.due("letters()", 6, x.letters());
        dueStation(x, 0, 0, 0, 1, 1);
        x.up(0, false);
        x.up(0, true);
        x.resend(0);
        Check.due("deliver(6) to one that was wiped, down and up again", 0, x.deliver(6));
        dueStation(x, 0, 0, 0, 1, 1);
    }

    private static void wipedAndAccept() {
        LogHouse x = settled(1, 2, 3);
        write(x, 0, 4);
        x.propose(0);
        x.wipe(0);
        Check.due("deliver(0) to one that was wiped", 0, x.deliver(0));
        Check.due("letters()", 6, x.letters());
        dueShare(x, 0, 1, -1, -1, -1, -1);
        x.wipe(1);
        Check.due("catchUp(1, 0)", 1, x.catchUp(1, 0));
        Check.due("deliver(0) to one that has caught up", 0, x.deliver(0));
        dueShare(x, 1, 1, -1, -1, -1, -1);
        dueStation(x, 1, 0, 1, 1, 1);
    }

    /** It is the proposer that such a letter comes to. */
    private static void lettersOfDownAndWiped() {
        LogHouse x = new LogHouse();
        x.campaign(0);
        deliverFirst(x, 7);
        x.up(0, false);
        x.wipe(1);
        deliverFirst(x, 5);
        dueState(x, 0, 2, 2, 0, 5);
        LogHouse y = led(0);
        write(y, 0, 1);
        y.propose(0);
        deliverFirst(y, 7);
        y.up(0, false);
        y.wipe(1);
        deliverFirst(y, 5);
        Check.due("decided(0, 0)", 2, y.decided(0, 0));
    }

    /** Station 0 has promised 3; letters 0, 20 and 13 are PREPARE 2, 3 and 4 to it, and its PROMISE lies last. */
    private static LogHouse preparesAround() {
        LogHouse x = new LogHouse();
        x.campaign(0);
        x.campaign(1);
        x.campaign(0);
        x.twin(7);
        x.deliver(7);
        dueStation(x, 0, 3, 0, 1, 0);
        return x;
    }

    private static void prepareBelow() {
        LogHouse x = preparesAround();
        dueLetter(x, 0, 0, 0, 0, 2);
        Check.due("deliver(0): PREPARE 2", 0, x.deliver(0));
        dueStation(x, 0, 3, 0, 1, 0);
        Check.due("letters()", 21, x.letters());
    }

    private static void prepareEqual() {
        LogHouse x = preparesAround();
        dueLetter(x, 20, 0, 0, 1, 3);
        Check.due("deliver(20): PREPARE 3", 1, x.deliver(20));
        dueStation(x, 0, 3, 0, 1, 0);
        dueLetter(x, 21, 1, 0, 1, 3);
    }

    private static void prepareAbove() {
        LogHouse x = preparesAround();
        dueLetter(x, 13, 0, 0, 0, 4);
        Check.due("deliver(13): PREPARE 4", 1, x.deliver(13));
        dueStation(x, 0, 4, 0, 1, 0);
        dueLetter(x, 21, 1, 0, 0, 4);
    }

    private static void acceptBelow() {
        LogHouse x = led(0);
        write(x, 0, 1, 2);
        x.propose(0);
        x.twin(0);
        x.deliver(0);
        x.drop(7);
        campaignOnly(x, 1, 0);
        dueStation(x, 0, 3, 1, 1, 0);
        write(x, 0, 3);
        x.propose(0);
        dueLetter(x, 6, 2, 0, 0, 2, 0, 2);
        Check.due("deliver(6): ACCEPT 2", 0, x.deliver(6));
        dueLetter(x, 6, 2, 0, 0, 2, 1, 2);
        Check.due("deliver(6): ACCEPT 2 of another place", 0, x.deliver(6));
        dueStation(x, 0, 3, 1, 1, 0);
        dueShare(x, 0, 0, 2, 2, 2);
        dueShare(x, 0, 1, -1);
    }

    /** A PREPARE of a new ballot comes to one station alone, and its answer is lost. */
    private static void campaignOnly(LogHouse x, int proposer, int station) {
        int before = x.letters();
        x.campaign(proposer);
        x.deliver(before + station);
        for (int k = 0; k < 7; k++) {
            x.drop(before);
        }
    }

    private static void acceptEqual() {
        LogHouse x = led(0);
        write(x, 0, 1, 2);
        x.propose(0);
        x.twin(0);
        dueStation(x, 0, 2, 0, 1, 0);
        Check.due("deliver(0): ACCEPT 2", 1, x.deliver(0));
        dueShare(x, 0, 0, 2, 2, 2, 1 ^ 2);
        Check.due("deliver(6): ACCEPT 2 once more", 1, x.deliver(6));
        dueStation(x, 0, 2, 1, 1, 0);
        dueLetter(x, 7, 3, 0, 0, 2, 0, 2);
    }

    private static void acceptAbove() {
        LogHouse x = new LogHouse();
        campaignOver(x, 1, 0, 1, 2, 3, 4);
        write(x, 1, 8);
        x.propose(1);
        dueStation(x, 6, 0, 0, 1, 0);
        Check.due("deliver(6): ACCEPT 3", 1, x.deliver(6));
        dueStation(x, 6, 3, 1, 1, 0);
        dueShare(x, 6, 0, 3, 3, 1, 8);
        Check.due("campaign(0): 3 is promised", 4, x.campaign(0));
    }

    // ---- promises come to a proposer

    private static void idleAtFirst() {
        LogHouse x = new LogHouse();
        dueState(x, 0, 0, 0, -1, 0);
        dueState(x, 1, 0, 0, -1, 0);
        x.campaign(0);
        deliverAll(x);
        dueState(x, 1, 0, 0, -1, 0);
    }

    private static LogHouse promisesLie() {
        LogHouse x = new LogHouse();
        x.campaign(0);
        deliverFirst(x, 7);
        return x;
    }

    private static void fourthPromise() {
        LogHouse x = promisesLie();
        deliverFirst(x, 4);
        dueState(x, 0, 1, 2, -1, 4);
    }

    private static void fifthPromise() {
        LogHouse x = promisesLie();
        deliverFirst(x, 4);
        Check.due("deliver(0): the fifth", 0, x.deliver(0));
        dueState(x, 0, 2, 2, 0, 5);
        LogHouse y = promisesLie();
        y.drop(0);
        y.drop(0);
        deliverFirst(y, 5);
        dueState(y, 0, 2, 2, 0, 5);
    }

    private static void promisesOfOneStation() {
        LogHouse x = promisesLie();
        for (int k = 0; k < 5; k++) {
            x.twin(6);
        }
        for (int k = 0; k < 6; k++) {
            x.deliver(6);
            dueState(x, 0, 1, 2, -1, 1);
        }
        deliverFirst(x, 3);
        dueState(x, 0, 1, 2, -1, 4);
        x.deliver(0);
        dueState(x, 0, 2, 2, 0, 5);
    }

    private static void olderPromises() {
        LogHouse x = promisesLie();
        x.campaign(0);
        for (int k = 0; k < 7; k++) {
            Check.due("deliver(0): PROMISE 2", 0, x.deliver(0));
        }
        dueState(x, 0, 1, 4, -1, 0);
        Check.due("resend(0): none is counted", 7, x.resend(0));
    }

    private static void sixthPromise() {
        LogHouse x = promisesLie();
        deliverFirst(x, 5);
        Check.due("deliver(0): the sixth", 0, x.deliver(0));
        dueState(x, 0, 2, 2, 0, 5);
        LogHouse y = acceptedBy(new int[] {1}, 0, 1, 2);
        y.campaign(1);
        deliverFirst(y, 7);
        y.drop(0);
        y.twin(0);
        for (int k = 0; k < 5; k++) {
            Check.due("deliver(1): two shares among five", 0, y.deliver(1));
        }
        dueState(y, 1, 2, 3, 0, 5);
        Check.due("deliver(0): the third share comes late", 0, y.deliver(0));
        dueState(y, 1, 2, 3, 0, 5);
    }

    // ---- shares in the five promises

    private static void sharesAmongFive(int count) {
        int[] bytes = {11, 22, 33, 44, 55};
        int[] five = {6, 2, 4, 1, 5};
        int[] holders = new int[count];
        System.arraycopy(five, 0, holders, 0, count);
        LogHouse x = acceptedBy(bytes, holders);
        boolean enough = count >= 3;
        Check.due("the fifth promise with " + count + " shares", enough ? 7 : 0, campaignOver(x, 1, five));
        dueState(x, 1, 2, 3, enough ? 1 : 0, 5);
        Check.due("resend(1)", enough ? 7 : 0, x.resend(1));
        if (enough) {
            deliverAll(x);
            Check.due("decided(1, 0)", 2, x.decided(1, 0));
            dueRead(x, 1, 0, bytes);
        }
    }

    private static void sharesOutsideTheFive() {
        LogHouse x = acceptedBy(new int[] {1, 2, 3}, 0, 1, 2, 3);
        Check.due("two of four shares are among the five", 0, campaignOver(x, 1, 2, 3, 4, 5, 6));
        dueState(x, 1, 2, 3, 0, 5);
    }

    private static void twoNewerThreeOlder() {
        LogHouse x = acceptedBy(new int[] {1, 2, 3}, 0, 1, 2, 3);
        campaignOver(x, 1, 2, 3, 4, 5, 6);
        write(x, 1, 7, 8, 9, 10);
        x.propose(1);
        deliverOnly(x, 2, 5, 6);
        dropAll(x);
        Check.due("three of identity 2, two of identity 3", 7, campaignOver(x, 0, 0, 1, 2, 5, 6));
        dueLetter(x, 0, 2, 0, 0, 4, 0, 2);
        deliverAll(x);
        dueRead(x, 0, 0, 1, 2, 3);

        LogHouse y = acceptedBy(new int[] {1, 2, 3}, 0, 1, 2, 3);
        campaignOver(y, 1, 2, 3, 4, 5, 6);
        write(y, 1, 7, 8, 9, 10);
        y.propose(1);
        deliverOnly(y, 2, 4, 5, 6);
        dropAll(y);
        Check.due("two of identity 2, three of identity 3", 7, campaignOver(y, 0, 0, 1, 4, 5, 6));
        dueLetter(y, 0, 2, 0, 0, 4, 0, 3);
        deliverAll(y);
        dueRead(y, 0, 0, 7, 8, 9, 10);
    }

    private static void oneIdentityThreeBallots() {
        LogHouse x = acceptedBy(new int[] {1, 2, 3, 4}, 0, 1, 2);
        campaignOver(x, 1, 0, 1, 2, 3, 4);
        deliverOnly(x, 2, 3);
        dropAll(x);
        campaignOver(x, 0, 0, 1, 2, 3, 4);
        deliverOnly(x, 2, 4);
        dropAll(x);
        dueShare(x, 0, 0, 2, 2, 4);
        dueShare(x, 3, 0, 3, 2, 4);
        dueShare(x, 4, 0, 4, 2, 4);
        Check.due("shares of ballots 2, 3 and 4", 7, campaignOver(x, 1, 0, 3, 4, 5, 6));
        dueLetter(x, 0, 2, 0, 1, 5, 0, 2);
        deliverAll(x);
        dueRead(x, 1, 0, 1, 2, 3, 4);
    }

    private static void decidedIsNotProposedAgain() {
        LogHouse x = settled(1, 2, 3);
        x.campaign(0);
        deliverFirst(x, 7);
        deliverFirst(x, 4);
        Check.due("deliver(0): the fifth", 0, x.deliver(0));
        dueState(x, 0, 2, 4, 1, 5);
        Check.due("resend(0)", 0, x.resend(0));
    }

    private static void allFreeAndNoneFree() {
        LogHouse x = led(0);
        Check.due("state(0, 2): all are free", 0, x.state(0, 2));
        for (int place = 0; place < 8; place++) {
            write(x, 0, place);
            x.propose(0);
            deliverFirst(x, 7);
            dropAll(x);
        }
        x.campaign(1);
        deliverFirst(x, 7);
        deliverFirst(x, 4);
        Check.due("deliver(0): eight places, behind two promises in the row", 56, x.deliver(0));
        dueState(x, 1, 2, 3, -1, 5);
    }

    // ---- acceptances come to a proposer

    private static LogHouse acceptedLie() {
        LogHouse x = led(0);
        write(x, 0, 1, 2);
        x.propose(0);
        deliverFirst(x, 7);
        return x;
    }

    private static void fourthAccepted() {
        LogHouse x = acceptedLie();
        deliverFirst(x, 4);
        Check.due("decided(0, 0)", 0, x.decided(0, 0));
        Check.due("resend(0)", 3, x.resend(0));
    }

    private static void fifthAccepted() {
        LogHouse x = acceptedLie();
        deliverFirst(x, 4);
        Check.due("deliver(0): the fifth", 0, x.deliver(0));
        Check.due("decided(0, 0)", 2, x.decided(0, 0));
        Check.due("resend(0)", 0, x.resend(0));
        LogHouse y = acceptedLie();
        y.drop(0);
        y.drop(0);
        deliverFirst(y, 5);
        Check.due("decided(0, 0)", 2, y.decided(0, 0));
    }

    private static void acceptedOfOneStation() {
        LogHouse x = acceptedLie();
        for (int k = 0; k < 5; k++) {
            x.twin(6);
        }
        for (int k = 0; k < 6; k++) {
            x.deliver(6);
        }
        deliverFirst(x, 3);
        Check.due("decided(0, 0): four stations", 0, x.decided(0, 0));
        x.deliver(0);
        Check.due("decided(0, 0): five stations", 2, x.decided(0, 0));
    }

    private static void acceptedOfTwoPlaces() {
        LogHouse x = led(0);
        write(x, 0, 1);
        x.propose(0);
        write(x, 0, 2);
        x.propose(0);
        deliverFirst(x, 14);
        deliverFirst(x, 4);
        for (int k = 0; k < 4; k++) {
            x.deliver(3);
        }
        Check.due("decided(0, 0) with four", 0, x.decided(0, 0));
        Check.due("decided(0, 1) with four", 0, x.decided(0, 1));
        x.deliver(3);
        Check.due("decided(0, 0) with four", 0, x.decided(0, 0));
        Check.due("decided(0, 1) with five", 2, x.decided(0, 1));
    }

    private static void olderAccepted() {
        LogHouse x = acceptedLie();
        deliverFirst(x, 4);
        x.campaign(0);
        for (int k = 0; k < 12; k++) {
            x.deliver(3);
        }
        dueState(x, 0, 2, 4, 1, 5);
        deliverFirst(x, 3);
        Check.due("decided(0, 0): of ballot 2 at ballot 4", 0, x.decided(0, 0));
        Check.due("resend(0): none has answered", 7, x.resend(0));
    }

    private static void acceptedWhileCampaigning() {
        LogHouse x = acceptedLie();
        x.campaign(0);
        for (int k = 0; k < 7; k++) {
            Check.due("deliver(0): ACCEPTED", 0, x.deliver(0));
        }
        dueState(x, 0, 1, 4, -1, 0);
        Check.due("decided(0, 0)", 0, x.decided(0, 0));
    }

    private static void sixthAccepted() {
        LogHouse x = acceptedLie();
        deliverFirst(x, 5);
        Check.due("deliver(0): the sixth", 0, x.deliver(0));
        Check.due("decided(0, 0)", 2, x.decided(0, 0));
        Check.due("decided(0, 1)", 0, x.decided(0, 1));
        dueState(x, 0, 2, 2, 1, 5);
        write(x, 0, 3);
        Check.due("propose(0)", 1, x.propose(0));
    }

    private static void decidedForEver() {
        LogHouse x = settled(1);
        for (int s = 0; s < 7; s++) {
            x.wipe(s);
        }
        x.campaign(0);
        deliverAll(x);
        x.campaign(0);
        Check.due("decided(0, 0)", 2, x.decided(0, 0));
    }

    private static void decidedForOneOnly() {
        LogHouse x = settled(1);
        Check.due("decided(0, 0)", 2, x.decided(0, 0));
        Check.due("decided(1, 0)", 0, x.decided(1, 0));
        campaignOver(x, 1, 0, 1, 2, 3, 4);
        Check.due("decided(1, 0): proposed again, not decided yet", 0, x.decided(1, 0));
    }
}
