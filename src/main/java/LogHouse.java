import java.util.NoSuchElementException;

/**
 * A log that seven stations keep together, each a third of every report, agreed on by two proposers
 * whose letters go where and when the caller says.
 */
public final class LogHouse {
    private static final int STATIONS = 7;
    private static final int PROPOSERS = 2;
    private static final int PLACES = 8;
    private static final int QUORUM = 5;
    private static final int PIECES = 3;
    private static final int MOST_BYTES = 24;
    private static final int MOST_LETTERS = 60;

    /** No ballot is 0, so as an identity it can stand for nothing. */
    private static final int NO_IDENTITY = 0;
    private static final int NONE = -1;

    private static final int PREPARE = 0;
    private static final int PROMISE = 1;
    private static final int ACCEPT = 2;
    private static final int ACCEPTED = 3;

    private static final int IDLE = 0;
    private static final int CAMPAIGNING = 1;
    private static final int LEADING = 2;

    private final Station[] stations;
    private final Proposer[] proposers;
    private final Row row;
    private final Gathering gathering;
    private final Report rebuilt;
    private final Report lastRead;

    public LogHouse() {
        stations = new Station[STATIONS];
        for (int s = 0; s < STATIONS; s++) {
            stations[s] = new Station();
        }
        proposers = new Proposer[PROPOSERS];
        for (int p = 0; p < PROPOSERS; p++) {
            proposers[p] = new Proposer(p);
        }
        row = new Row();
        gathering = new Gathering();
        rebuilt = new Report();
        lastRead = new Report();
    }

    public boolean byteIn(int proposer, int word, int n) {
        if (!isProposer(proposer) || n < 1 || n > 4) {
            return false;
        }
        return proposers[proposer].write(word, n);
    }

    public int campaign(int proposer) throws IllegalArgumentException {
        checkProposer(proposer);
        Proposer candidate = proposers[proposer];
        candidate.begin(highestPromised());
        sendPrepares(candidate);
        return candidate.ballot;
    }

    public int propose(int proposer) throws IllegalArgumentException, IllegalStateException {
        checkProposer(proposer);
        Proposer leader = proposers[proposer];
        int place = leader.firstFree();
        if (place == NONE || leader.draftLength == 0) {
            throw new IllegalStateException();
        }
        leader.proposeDraft(place);
        sendAccepts(leader, place);
        return place;
    }

    public int resend(int proposer) throws IllegalArgumentException {
        checkProposer(proposer);
        Proposer sender = proposers[proposer];
        int before = row.count;
        if (sender.phase == CAMPAIGNING) {
            sendPrepares(sender);
        } else if (sender.phase == LEADING) {
            sendAllAccepts(sender);
        }
        return row.count - before;
    }

    public int deliver(int i) throws IndexOutOfBoundsException {
        checkLetter(i);
        Letter mail = row.take(i);
        int before = row.count;
        switch (mail.kind) {
            case PREPARE:
                bringPrepare(mail);
                break;
            case PROMISE:
                bringPromise(mail);
                break;
            case ACCEPT:
                bringAccept(mail);
                break;
            default:
                proposers[mail.proposer].hearAccepted(mail);
                break;
        }
        return row.count - before;
    }

    public void drop(int i) throws IndexOutOfBoundsException {
        checkLetter(i);
        row.take(i);
    }

    public void twin(int i) throws IndexOutOfBoundsException, IllegalStateException {
        checkLetter(i);
        Letter copy = row.append();
        if (copy == null) {
            throw new IllegalStateException();
        }
        copy.copyFrom(row.slots[i]);
    }

    public int letters() {
        return row.count;
    }

    public int letter(int i, int what) throws IndexOutOfBoundsException, IllegalArgumentException {
        checkLetter(i);
        Letter mail = row.slots[i];
        switch (what) {
            case 0:
                return mail.kind;
            case 1:
                return mail.station;
            case 2:
                return mail.proposer;
            case 3:
                return mail.ballot;
            case 4:
                return mail.place;
            case 5:
                return mail.identity;
            default:
                throw new IllegalArgumentException();
        }
    }

    public boolean up(int station, boolean is) throws IllegalArgumentException {
        checkStation(station);
        boolean changes = stations[station].isUp != is;
        stations[station].isUp = is;
        return changes;
    }

    public void wipe(int station) throws IllegalArgumentException {
        checkStation(station);
        stations[station].loseAll();
    }

    public int catchUp(int station, int proposer) throws IllegalArgumentException, IllegalStateException {
        checkStation(station);
        checkProposer(proposer);
        Station learner = stations[station];
        if (!learner.wasWiped || !learner.isUp) {
            throw new IllegalStateException();
        }
        int taken = 0;
        for (int place = 0; place < PLACES; place++) {
            int identity = proposers[proposer].spots[place].decidedIdentity;
            if (identity != NO_IDENTITY && !learner.shelf.has(place) && gatherFromStations(place, identity)) {
                gathering.putTogether(rebuilt);
                learner.shelf.put(place, 0, identity, rebuilt.length, rebuilt.shareOf(station));
                taken++;
            }
        }
        return taken;
    }

    public int decided(int proposer, int place) throws IllegalArgumentException {
        checkProposer(proposer);
        checkPlace(place);
        return proposers[proposer].spots[place].decidedIdentity;
    }

    public int read(int proposer, int place)
            throws IllegalArgumentException, NoSuchElementException, IllegalStateException {
        checkProposer(proposer);
        checkPlace(place);
        int identity = proposers[proposer].spots[place].decidedIdentity;
        if (identity == NO_IDENTITY) {
            throw new NoSuchElementException();
        }
        if (!gatherFromStations(place, identity)) {
            throw new IllegalStateException();
        }
        gathering.putTogether(lastRead);
        return lastRead.length;
    }

    public int readByte(int i) throws IndexOutOfBoundsException {
        if (i < 0 || i >= lastRead.length) {
            throw new IndexOutOfBoundsException();
        }
        return lastRead.byteAt(i);
    }

    public int state(int proposer, int what) throws IllegalArgumentException {
        checkProposer(proposer);
        Proposer asked = proposers[proposer];
        switch (what) {
            case 0:
                return asked.phase;
            case 1:
                return asked.ballot;
            case 2:
                return asked.firstFree();
            case 3:
                return Integer.bitCount(asked.promisedBy);
            default:
                throw new IllegalArgumentException();
        }
    }

    public int station(int s, int what) throws IllegalArgumentException {
        checkStation(s);
        Station asked = stations[s];
        switch (what) {
            case 0:
                return asked.promised;
            case 1:
                return asked.shelf.countBytes();
            case 2:
                return asked.isUp ? 1 : 0;
            case 3:
                return asked.wasWiped ? 1 : 0;
            default:
                throw new IllegalArgumentException();
        }
    }

    public int share(int s, int place, int what) throws IllegalArgumentException {
        checkStation(s);
        checkPlace(place);
        if (what < 0) {
            throw new IllegalArgumentException();
        }
        Shelf shelf = stations[s].shelf;
        if (!shelf.has(place)) {
            return NONE;
        }
        switch (what) {
            case 0:
                return shelf.ballots[place];
            case 1:
                return shelf.identities[place];
            case 2:
                return shelf.lengths[place];
            default:
                return shelf.shareByte(place, what - 3);
        }
    }

    private static boolean isProposer(int proposer) {
        return proposer >= 0 && proposer < PROPOSERS;
    }

    private static void checkProposer(int proposer) {
        if (!isProposer(proposer)) {
            throw new IllegalArgumentException();
        }
    }

    private static void checkStation(int station) {
        if (station < 0 || station >= STATIONS) {
            throw new IllegalArgumentException();
        }
    }

    private static void checkPlace(int place) {
        if (place < 0 || place >= PLACES) {
            throw new IllegalArgumentException();
        }
    }

    private void checkLetter(int i) {
        if (i < 0 || i >= row.count) {
            throw new IndexOutOfBoundsException();
        }
    }

    private int highestPromised() {
        int highest = 0;
        for (int s = 0; s < STATIONS; s++) {
            highest = Math.max(highest, stations[s].promised);
        }
        return highest;
    }

    private void sendPrepares(Proposer sender) {
        for (int s = 0; s < STATIONS; s++) {
            if (!sender.hasPromiseOf(s)) {
                row.post(PREPARE, s, sender.number, sender.ballot);
            }
        }
    }

    private void sendAllAccepts(Proposer sender) {
        for (int place = 0; place < PLACES; place++) {
            if (sender.spots[place].isWaiting()) {
                sendAccepts(sender, place);
            }
        }
    }

    private void sendAccepts(Proposer sender, int place) {
        Spot spot = sender.spots[place];
        for (int s = 0; s < STATIONS; s++) {
            if (!spot.hasAnswerOf(s)) {
                Letter mail = row.post(ACCEPT, s, sender.number, sender.ballot);
                if (mail != null) {
                    mail.aboutPlace(place, spot.proposedIdentity);
                    mail.length = spot.report.length;
                    mail.share = spot.report.shareOf(s);
                }
            }
        }
    }

    private void bringPrepare(Letter mail) {
        Station receiver = stations[mail.station];
        if (receiver.heeds(mail.ballot)) {
            receiver.promised = mail.ballot;
            Letter answer = row.post(PROMISE, mail.station, mail.proposer, mail.ballot);
            if (answer != null) {
                answer.shelf.copyFrom(receiver.shelf);
            }
        }
    }

    private void bringPromise(Letter mail) {
        Proposer receiver = proposers[mail.proposer];
        receiver.hearPromise(mail);
        if (receiver.phase == CAMPAIGNING && Integer.bitCount(receiver.promisedBy) >= QUORUM) {
            lead(receiver);
        }
    }

    private void lead(Proposer leader) {
        leader.phase = LEADING;
        for (int place = 0; place < PLACES; place++) {
            Spot spot = leader.spots[place];
            if (spot.isOpen() && leader.gatherFromPromises(place, gathering)) {
                spot.proposeAs(gathering.identity);
                gathering.putTogether(spot.report);
            }
        }
        sendAllAccepts(leader);
    }

    private void bringAccept(Letter mail) {
        Station receiver = stations[mail.station];
        if (receiver.heeds(mail.ballot)) {
            receiver.promised = mail.ballot;
            receiver.shelf.put(mail.place, mail.ballot, mail.identity, mail.length, mail.share);
            Letter answer = row.post(ACCEPTED, mail.station, mail.proposer, mail.ballot);
            if (answer != null) {
                answer.aboutPlace(mail.place, mail.identity);
            }
        }
    }

    /** Whether three stations that are up have shares of an identity; these are gathered then. */
    private boolean gatherFromStations(int place, int identity) {
        gathering.start(identity);
        for (int s = 0; s < STATIONS; s++) {
            if (stations[s].isUp) {
                gathering.addIfOfIt(s, stations[s].shelf, place);
            }
        }
        return gathering.isEnough();
    }

    /** The field of 256 elements, worked on in eight bytes of a long at once. */
    private static final class Field {
        private static final long LOW_BITS = 0x7F7F7F7F7F7F7F7FL;
        private static final long UNITS = 0x0101010101010101L;
        private static final long REDUCTION = 0x1BL;
        /** All that is ever divided by is a sum of two of the numbers 1 .. 7, so one of them again. */
        private static final int[] INVERSES = {0x00, 0x01, 0x8D, 0xF6, 0xCB, 0x52, 0x7B, 0xD1};

        static long times(long bytes, int factor) {
            long product = 0;
            long power = bytes;
            for (int bit = 0; bit < 8; bit++) {
                if ((factor >>> bit & 1) == 1) {
                    product ^= power;
                }
                // the highest bit of a byte must not run into its neighbour: it is reduced in its own byte
                power = (power & LOW_BITS) << 1 ^ (power >>> 7 & UNITS) * REDUCTION;
            }
            return product;
        }

        static long overSum(long bytes, int x, int y) {
            return times(bytes, INVERSES[(x ^ y) & 7]);
        }
    }

    /** A report as its three pieces, byte i of a piece in the bits from 8 i on of its long. */
    private static final class Report {
        int length;
        final long[] pieces = new long[PIECES];

        static int third(int length) {
            return (length + PIECES - 1) / PIECES;
        }

        static int pointOf(int station) {
            return station + 1;
        }

        void cut(byte[] bytes, int count) {
            length = count;
            clearPieces();
            int third = Math.max(1, third(count));
            for (int i = 0; i < count; i++) {
                pieces[i / third] |= (bytes[i] & 255L) << 8 * (i % third);
            }
        }

        void clearPieces() {
            for (int k = 0; k < PIECES; k++) {
                pieces[k] = 0;
            }
        }

        int byteAt(int i) {
            int third = Math.max(1, third(length));
            return (int) (pieces[i / third] >>> 8 * (i % third) & 255);
        }

        long shareOf(int station) {
            int x = pointOf(station);
            long sum = 0;
            for (int k = PIECES - 1; k >= 0; k--) {
                sum = Field.times(sum, x) ^ pieces[k];
            }
            return sum;
        }

        /** Adds the parabola that has the share's value at x and is zero at y and z. */
        void addShare(long share, int x, int y, int z) {
            long scaled = Field.overSum(Field.overSum(share, x, y), x, z);
            pieces[0] ^= Field.times(Field.times(scaled, y), z);
            pieces[1] ^= Field.times(scaled, y ^ z);
            pieces[2] ^= scaled;
        }
    }

    /** The first three shares found of one identity. */
    private static final class Gathering {
        int identity;
        private int length;
        private int count;
        private final int[] points = new int[PIECES];
        private final long[] shares = new long[PIECES];

        void start(int wanted) {
            identity = wanted;
            length = 0;
            count = 0;
        }

        void addIfOfIt(int station, Shelf shelf, int place) {
            if (count < PIECES && shelf.has(place) && shelf.identities[place] == identity) {
                length = shelf.lengths[place];
                points[count] = Report.pointOf(station);
                shares[count] = shelf.shares[place];
                count++;
            }
        }

        boolean isEnough() {
            return count == PIECES;
        }

        void putTogether(Report report) {
            report.length = length;
            report.clearPieces();
            for (int k = 0; k < PIECES; k++) {
                report.addShare(shares[k], points[k], points[(k + 1) % PIECES], points[(k + 2) % PIECES]);
            }
        }
    }

    /** What a station has accepted last, place by place. */
    private static final class Shelf {
        final int[] ballots = new int[PLACES];
        final int[] identities = new int[PLACES];
        final int[] lengths = new int[PLACES];
        final long[] shares = new long[PLACES];

        boolean has(int place) {
            return identities[place] != NO_IDENTITY;
        }

        void put(int place, int ballot, int identity, int length, long bytes) {
            ballots[place] = ballot;
            identities[place] = identity;
            lengths[place] = length;
            shares[place] = bytes;
        }

        void clear() {
            for (int place = 0; place < PLACES; place++) {
                put(place, 0, NO_IDENTITY, 0, 0);
            }
        }

        void copyFrom(Shelf other) {
            for (int place = 0; place < PLACES; place++) {
                put(place, other.ballots[place], other.identities[place], other.lengths[place], other.shares[place]);
            }
        }

        int countBytes() {
            int sum = 0;
            for (int place = 0; place < PLACES; place++) {
                sum += Report.third(lengths[place]);
            }
            return sum;
        }

        int shareByte(int place, int i) {
            if (i >= Report.third(lengths[place])) {
                return NONE;
            }
            return (int) (shares[place] >>> 8 * i & 255);
        }
    }

    private static final class Station {
        int promised;
        boolean isUp = true;
        boolean wasWiped;
        final Shelf shelf = new Shelf();

        boolean heeds(int ballot) {
            return isUp && !wasWiped && ballot >= promised;
        }

        void loseAll() {
            promised = 0;
            shelf.clear();
            wasWiped = true;
        }
    }

    /** What a proposer knows of one place. */
    private static final class Spot {
        int decidedIdentity;
        int proposedIdentity;
        private int answeredBy;
        final Report report = new Report();

        boolean isOpen() {
            return decidedIdentity == NO_IDENTITY && proposedIdentity == NO_IDENTITY;
        }

        boolean isWaiting() {
            return proposedIdentity != NO_IDENTITY;
        }

        boolean hasAnswerOf(int station) {
            return (answeredBy >>> station & 1) == 1;
        }

        void proposeAs(int identity) {
            proposedIdentity = identity;
            answeredBy = 0;
        }

        void forget() {
            proposeAs(NO_IDENTITY);
        }

        void hearAnswer(int station, int identity) {
            if (!isWaiting() || identity != proposedIdentity) {
                return;
            }
            answeredBy |= 1 << station;
            if (Integer.bitCount(answeredBy) >= QUORUM) {
                decidedIdentity = proposedIdentity;
                forget();
            }
        }
    }

    private static final class Proposer {
        final int number;
        int phase = IDLE;
        int ballot;
        int promisedBy;
        int draftLength;
        private final byte[] draft = new byte[MOST_BYTES];
        private final Shelf[] promises = new Shelf[STATIONS];
        final Spot[] spots = new Spot[PLACES];

        Proposer(int number) {
            this.number = number;
            for (int s = 0; s < STATIONS; s++) {
                promises[s] = new Shelf();
            }
            for (int place = 0; place < PLACES; place++) {
                spots[place] = new Spot();
            }
        }

        boolean write(int word, int n) {
            if (draftLength + n > MOST_BYTES) {
                return false;
            }
            for (int k = n - 1; k >= 0; k--) {
                draft[draftLength] = (byte) (word >>> 8 * k);
                draftLength++;
            }
            return true;
        }

        void begin(int highestPromised) {
            int floor = Math.max(ballot, highestPromised);
            int round = Math.max(1, (floor - number + 2) / 2);
            ballot = 2 * round + number;
            phase = CAMPAIGNING;
            promisedBy = 0;
            for (int place = 0; place < PLACES; place++) {
                spots[place].forget();
            }
        }

        int firstFree() {
            if (phase != LEADING) {
                return NONE;
            }
            for (int place = 0; place < PLACES; place++) {
                if (spots[place].isOpen()) {
                    return place;
                }
            }
            return NONE;
        }

        void proposeDraft(int place) {
            spots[place].proposeAs(ballot);
            spots[place].report.cut(draft, draftLength);
            draftLength = 0;
        }

        boolean hasPromiseOf(int station) {
            return (promisedBy >>> station & 1) == 1;
        }

        void hearPromise(Letter mail) {
            if (phase == CAMPAIGNING && mail.ballot == ballot && !hasPromiseOf(mail.station)) {
                promises[mail.station].copyFrom(mail.shelf);
                promisedBy |= 1 << mail.station;
            }
        }

        void hearAccepted(Letter mail) {
            if (phase == LEADING && mail.ballot == ballot) {
                spots[mail.place].hearAnswer(mail.station, mail.identity);
            }
        }

        /** Five promises have room for one identity with three shares only, so the first found is the highest. */
        boolean gatherFromPromises(int place, Gathering gathering) {
            for (int s = 0; s < STATIONS; s++) {
                if (hasPromiseOf(s) && promises[s].has(place)) {
                    gathering.start(promises[s].identities[place]);
                    addPromises(place, gathering);
                    if (gathering.isEnough()) {
                        return true;
                    }
                }
            }
            return false;
        }

        private void addPromises(int place, Gathering gathering) {
            for (int s = 0; s < STATIONS; s++) {
                if (hasPromiseOf(s)) {
                    gathering.addIfOfIt(s, promises[s], place);
                }
            }
        }
    }

    private static final class Letter {
        int kind;
        int station;
        int proposer;
        int ballot;
        int place;
        int identity;
        int length;
        long share;
        final Shelf shelf = new Shelf();

        void address(int newKind, int newStation, int newProposer, int newBallot) {
            kind = newKind;
            station = newStation;
            proposer = newProposer;
            ballot = newBallot;
            place = NONE;
            identity = NONE;
        }

        void aboutPlace(int newPlace, int newIdentity) {
            place = newPlace;
            identity = newIdentity;
        }

        void copyFrom(Letter other) {
            address(other.kind, other.station, other.proposer, other.ballot);
            aboutPlace(other.place, other.identity);
            length = other.length;
            share = other.share;
            shelf.copyFrom(other.shelf);
        }
    }

    /** The letters that lie in the row, in the first slots. */
    private static final class Row {
        int count;
        /** One slot more than letters can lie: the letter taken last stays whole there while answers to it come. */
        final Letter[] slots = new Letter[MOST_LETTERS + 1];

        Row() {
            for (int i = 0; i <= MOST_LETTERS; i++) {
                slots[i] = new Letter();
            }
        }

        Letter take(int i) {
            Letter taken = slots[i];
            count--;
            for (int k = i; k < count; k++) {
                slots[k] = slots[k + 1];
            }
            slots[count] = slots[MOST_LETTERS];
            slots[MOST_LETTERS] = taken;
            return taken;
        }

        /** The slot of one letter more, or null: without room it is lost. */
        Letter append() {
            if (count >= MOST_LETTERS) {
                return null;
            }
            Letter added = slots[count];
            count++;
            return added;
        }

        Letter post(int kind, int station, int proposer, int ballot) {
            Letter added = append();
            if (added != null) {
                added.address(kind, station, proposer, ballot);
            }
            return added;
        }
    }
}
