/**
 * What the tests by promise and by sentence have in common: ways to bring a house to a state, and ways to look at
 * it. None of them takes more calls than leave room for some hundred of the test's own among the 512.
 */
abstract class Scenes {
    interface Scene {
        LogHouse make();
    }

    interface Act {
        void on(LogHouse x);
    }

    // 256 and a little more would be right again if only a byte of them were looked at
    static final int[] NO_PROPOSERS = {-1, 2, 9, 256, 257, Integer.MIN_VALUE, Integer.MAX_VALUE};
    static final int[] NO_STATIONS = {-1, 7, 99, 256, 259, Integer.MIN_VALUE, Integer.MAX_VALUE};
    static final int[] NO_PLACES = {-1, 8, 99, 256, 257, Integer.MIN_VALUE, Integer.MAX_VALUE};

    static void write(LogHouse x, int proposer, int... bytes) {
        for (int b : bytes) {
            Check.due("byteIn(" + proposer + ", " + b + ", 1)", true, x.byteIn(proposer, b, 1));
        }
    }

    /** Delivers the first letter until none lies, and counts the calls' answers. */
    static int deliverAll(LogHouse x) {
        int came = 0;
        for (int k = 0; k < 300 && x.letters() > 0; k++) {
            came += x.deliver(0);
        }
        return came;
    }

    static void dropAll(LogHouse x) {
        int count = x.letters();
        for (int k = 0; k < count; k++) {
            x.drop(0);
        }
    }

    static LogHouse led(int proposer) {
        LogHouse x = new LogHouse();
        x.campaign(proposer);
        deliverAll(x);
        return x;
    }

    /** A house where proposer 0 has had a report decided at place 0 under identity 2. */
    static LogHouse settled(int... bytes) {
        LogHouse x = led(0);
        write(x, 0, bytes);
        x.propose(0);
        deliverAll(x);
        return x;
    }

    /** Delivers those of the letters of a kind that go to or come from the stations named, and drops all others. */
    static void deliverOnly(LogHouse x, int kind, int... stations) {
        for (int i = x.letters() - 1; i >= 0; i--) {
            int station = x.letter(i, 1);
            boolean wanted = false;
            for (int s : stations) {
                wanted |= station == s;
            }
            if (wanted && x.letter(i, 0) == kind) {
                x.deliver(i);
            } else {
                x.drop(i);
            }
        }
    }

    /** Proposer 0 leads with ballot 2 and has its report accepted by the stations named; no answer comes back. */
    static LogHouse acceptedBy(int[] bytes, int... stations) {
        LogHouse x = led(0);
        write(x, 0, bytes);
        x.propose(0);
        deliverOnly(x, 2, stations);
        dropAll(x);
        return x;
    }

    /** A campaign of which the promises of the stations named alone come. */
    static int campaignOver(LogHouse x, int proposer, int... stations) {
        x.campaign(proposer);
        deliverOnly(x, 0, stations);
        int came = 0;
        for (int k = 0; k < stations.length; k++) {
            came = x.deliver(0);
        }
        return came;
    }

    static void dueLetter(LogHouse x, int i, int... fields) {
        for (int what = 0; what < fields.length; what++) {
            Check.due("letter(" + i + ", " + what + ")", fields[what], x.letter(i, what));
        }
    }

    static void dueRead(LogHouse x, int proposer, int place, int... bytes) {
        Check.due("read(" + proposer + ", " + place + ")", bytes.length, x.read(proposer, place));
        for (int i = 0; i < bytes.length; i++) {
            Check.due("readByte(" + i + ")", bytes[i], x.readByte(i));
        }
    }

    static void dueStation(LogHouse x, int s, int promised, int bytes, int up, int wiped) {
        Check.due("station(" + s + ", 0)", promised, x.station(s, 0));
        Check.due("station(" + s + ", 1)", bytes, x.station(s, 1));
        Check.due("station(" + s + ", 2)", up, x.station(s, 2));
        Check.due("station(" + s + ", 3)", wiped, x.station(s, 3));
    }

    static void dueState(LogHouse x, int proposer, int phase, int ballot, int free, int promises) {
        Check.due("state(" + proposer + ", 0)", phase, x.state(proposer, 0));
        Check.due("state(" + proposer + ", 1)", ballot, x.state(proposer, 1));
        Check.due("state(" + proposer + ", 2)", free, x.state(proposer, 2));
        Check.due("state(" + proposer + ", 3)", promises, x.state(proposer, 3));
    }

    static void dueShare(LogHouse x, int s, int place, int... fields) {
        for (int what = 0; what < fields.length; what++) {
            Check.due("share(" + s + ", " + place + ", " + what + ")", fields[what], x.share(s, place, what));
        }
    }

    static void deliverFirst(LogHouse x, int times) {
        for (int k = 0; k < times; k++) {
            x.deliver(0);
        }
    }

    /** Twins of the letter that lies last, until so many letters lie. */
    static void fillUpTo(LogHouse x, int count) {
        for (int lie = x.letters(); lie < count; lie++) {
            x.twin(lie - 1);
        }
    }

    static int[] counted(int length, int from) {
        int[] bytes = new int[length];
        for (int i = 0; i < length; i++) {
            bytes[i] = from + 37 * i & 255;
        }
        return bytes;
    }

    // ---- scenes in which calls are refused

    /**
     * Letters of all four kinds lie in the row, twelve of them. Proposer 0 leads with place 0 decided, place 1
     * proposed and a report written; proposer 1 campaigns with one promise and a report written; station 3 is down
     * and station 4 was wiped; the report of place 0 was read.
     */
    static LogHouse busy() {
        LogHouse x = settled(1, 2, 3, 4);
        x.read(0, 0);
        write(x, 0, 5, 6);
        x.propose(0);
        x.deliver(0);
        x.deliver(0);
        x.deliver(5);
        x.campaign(1);
        x.deliver(6);
        x.deliver(6);
        x.deliver(11);
        x.up(3, false);
        x.wipe(4);
        write(x, 0, 7, 8, 9);
        write(x, 1, 10);
        return x;
    }

    static LogHouse busyAndFull() {
        LogHouse x = busy();
        for (int k = 0; k < 48; k++) {
            x.twin(k % 12);
        }
        return x;
    }

    // ---- refused calls

    /** The call throws this, and all that can be seen afterwards is as without the call. */
    static void dueRefused(String call, Class<? extends RuntimeException> want, Scene scene, Act act) {
        dueUntouched(call, scene, x -> Check.dueThrow(call, want, () -> act.on(x)));
    }

    static void dueUntouched(String call, Scene scene, Act act) {
        for (int part = 0; part < PARTS; part++) {
            LogHouse touched = scene.make();
            act.on(touched);
            Check.due(call + ": all stays as it was, part " + part, see(scene.make(), part), see(touched, part));
        }
    }

    private static final int PARTS = 10;

    /** A part of what can be seen; the whole would take more calls than an object is good for. */
    private static String see(LogHouse x, int part) {
        StringBuilder seen = new StringBuilder();
        if (part < 2) {
            seeLetters(x, 30 * part, seen);
        } else if (part < 6) {
            seeShares(x, 2 * (part - 2), seen);
        } else if (part < 8) {
            seeWritten(x, part - 6, seen);
        } else {
            for (int k = 0; part == 9 && k < 100 && x.letters() > 0; k++) {
                seen.append(x.deliver(0)).append(' ');
            }
            seeKnown(x, seen);
        }
        return seen.toString();
    }

    private static void seeLetters(LogHouse x, int from, StringBuilder seen) {
        int count = x.letters();
        seen.append(count).append(" letters");
        for (int i = from; i < Math.min(count, from + 30); i++) {
            seen.append('|');
            for (int what = 0; what < 6; what++) {
                seen.append(x.letter(i, what)).append(' ');
            }
        }
    }

    private static void seeShares(LogHouse x, int from, StringBuilder seen) {
        for (int s = from; s < Math.min(7, from + 2); s++) {
            for (int place = 0; place < 8; place++) {
                seen.append('|');
                for (int what = 0; what < 12; what++) {
                    seen.append(x.share(s, place, what)).append(' ');
                }
            }
        }
    }

    /** What a proposer has written shows only when it is proposed and accepted. */
    private static void seeWritten(LogHouse x, int proposer, StringBuilder seen) {
        dropAll(x);
        for (int s = 0; s < 7; s++) {
            x.up(s, true);
        }
        x.campaign(proposer);
        deliverFirst(x, 7);
        deliverFirst(x, 5);
        dropAll(x);
        try {
            int place = x.propose(proposer);
            deliverFirst(x, 3);
            for (int s = 0; s < 3; s++) {
                for (int what = 0; what < 12; what++) {
                    seen.append(x.share(s, place, what)).append(' ');
                }
            }
        } catch (IllegalStateException e) {
            seen.append("nothing written");
        }
    }

    private static void seeKnown(LogHouse x, StringBuilder seen) {
        for (int p = 0; p < 2; p++) {
            for (int what = 0; what < 4; what++) {
                seen.append(x.state(p, what)).append(' ');
            }
            for (int place = 0; place < 8; place++) {
                seen.append(x.decided(p, place)).append(' ');
            }
        }
        for (int s = 0; s < 7; s++) {
            for (int what = 0; what < 4; what++) {
                seen.append(x.station(s, what)).append(' ');
            }
        }
        seeRead(x, seen);
    }

    private static void seeRead(LogHouse x, StringBuilder seen) {
        try {
            for (int i = 0; i < 25; i++) {
                seen.append(x.readByte(i)).append(' ');
            }
        } catch (IndexOutOfBoundsException e) {
            seen.append("end");
        }
    }

    // ---- the field of 256 elements, bit by bit

    static int slowProduct(int a, int b) {
        int product = 0;
        for (int k = 0; k < 8; k++) {
            product ^= (b >> k & 1) * (a << k);
        }
        for (int k = 14; k >= 8; k--) {
            product ^= (product >> k & 1) * (0x11B << k - 8);
        }
        return product;
    }
}
