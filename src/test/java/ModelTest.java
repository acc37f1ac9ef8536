import java.util.ArrayList;
import java.util.Arrays;
import java.util.HashMap;
import java.util.List;
import java.util.Map;
import java.util.NoSuchElementException;
import java.util.TreeMap;
import java.util.TreeSet;

/**
 * Runs of 512 calls each on the class and on a plain second telling of the document, call by call. The second
 * telling never decodes: it remembers every report by place and identity, so that what the class puts together
 * out of shares is held against the bytes that were written.
 */
public final class ModelTest {
    private static final int RUNS = 6000;
    private static final int CALLS = 512;

    private record Accepted(int ballot, int identity, int length, int[] share) {
    }

    private record Mail(int kind, int station, int proposer, int ballot, int place, int identity, Accepted content,
            Map<Integer, Accepted> all) {
    }

    private static final class ModelStation {
        int promised;
        boolean up = true;
        boolean wiped;
        Map<Integer, Accepted> accepted = new TreeMap<>();
    }

    private static final class ModelProposer {
        int phase;
        int ballot;
        List<Integer> draft = new ArrayList<>();
        Map<Integer, Map<Integer, Accepted>> promises = new TreeMap<>();
        Map<Integer, Integer> proposed = new TreeMap<>();
        Map<Integer, TreeSet<Integer>> answers = new TreeMap<>();
        Map<Integer, Integer> decided = new TreeMap<>();

        int free() {
            for (int place = 0; phase == 2 && place < 8; place++) {
                if (!decided.containsKey(place) && !proposed.containsKey(place)) {
                    return place;
                }
            }
            return -1;
        }
    }

    /** The document once more, in the plainest way. */
    private static final class Model {
        final ModelStation[] stations = new ModelStation[7];
        final ModelProposer[] proposers = {new ModelProposer(), new ModelProposer()};
        final List<Mail> row = new ArrayList<>();
        final Map<String, List<Integer>> reports = new HashMap<>();
        List<Integer> lastRead = new ArrayList<>();

        Model() {
            for (int s = 0; s < 7; s++) {
                stations[s] = new ModelStation();
            }
        }

        static void need(boolean condition) {
            if (!condition) {
                throw new IllegalArgumentException();
            }
        }

        void needLetter(int i) {
            if (i < 0 || i >= row.size()) {
                throw new IndexOutOfBoundsException();
            }
        }

        static boolean in(int value, int end) {
            return value >= 0 && value < end;
        }

        List<Integer> report(int place, int identity) {
            return reports.get(place + ":" + identity);
        }

        Accepted content(int ballot, int place, int identity, int station) {
            List<Integer> report = report(place, identity);
            int third = (report.size() + 2) / 3;
            int[] share = new int[third];
            for (int i = 0; i < third; i++) {
                int x = station + 1;
                int sum = 0;
                int power = 1;
                for (int piece = 0; piece < 3; piece++) {
                    int at = piece * third + i;
                    sum ^= product(at < report.size() ? report.get(at) : 0, power);
                    power = product(power, x);
                }
                share[i] = sum;
            }
            return new Accepted(ballot, identity, report.size(), share);
        }

        static int product(int a, int b) {
            int sum = 0;
            for (int k = 7; k >= 0; k--) {
                sum <<= 1;
                if (sum > 255) {
                    sum ^= 0x11B;
                }
                if ((b >> k & 1) == 1) {
                    sum ^= a;
                }
            }
            return sum;
        }

        int send(Mail mail) {
            if (row.size() < 60) {
                row.add(mail);
                return 1;
            }
            Stats.lost++;
            return 0;
        }

        int sendPrepares(int p) {
            int came = 0;
            for (int s = 0; s < 7; s++) {
                if (!proposers[p].promises.containsKey(s)) {
                    came += send(new Mail(0, s, p, proposers[p].ballot, -1, -1, null, null));
                }
            }
            return came;
        }

        int sendAccepts(int p, int place) {
            int came = 0;
            ModelProposer pr = proposers[p];
            int identity = pr.proposed.get(place);
            for (int s = 0; s < 7; s++) {
                if (!pr.answers.get(place).contains(s)) {
                    Accepted content = content(pr.ballot, place, identity, s);
                    came += send(new Mail(2, s, p, pr.ballot, place, identity, content, null));
                }
            }
            return came;
        }

        long byteIn(int p, int word, int n) {
            if (!in(p, 2) || n < 1 || n > 4 || proposers[p].draft.size() + n > 24) {
                return 0;
            }
            int[] bytes = {word >> 24 & 255, word >> 16 & 255, word >> 8 & 255, word & 255};
            for (int k = 4 - n; k < 4; k++) {
                proposers[p].draft.add(bytes[k]);
            }
            return 1;
        }

        long campaign(int p) {
            need(in(p, 2));
            int above = proposers[p].ballot;
            for (ModelStation st : stations) {
                above = Math.max(above, st.promised);
            }
            int ballot = 2 + p;
            while (ballot <= above) {
                ballot += 2;
            }
            ModelProposer pr = proposers[p];
            pr.ballot = ballot;
            pr.phase = 1;
            pr.promises.clear();
            pr.proposed.clear();
            pr.answers.clear();
            sendPrepares(p);
            return ballot;
        }

        long propose(int p) {
            need(in(p, 2));
            ModelProposer pr = proposers[p];
            if (pr.phase != 2 || pr.draft.isEmpty() || pr.free() < 0) {
                throw new IllegalStateException();
            }
            int place = pr.free();
            reports.put(place + ":" + pr.ballot, pr.draft);
            pr.draft = new ArrayList<>();
            pr.proposed.put(place, pr.ballot);
            pr.answers.put(place, new TreeSet<>());
            sendAccepts(p, place);
            return place;
        }

        long resend(int p) {
            need(in(p, 2));
            ModelProposer pr = proposers[p];
            int came = 0;
            if (pr.phase == 1) {
                came = sendPrepares(p);
            } else if (pr.phase == 2) {
                for (int place : pr.proposed.keySet()) {
                    came += pr.decided.containsKey(place) ? 0 : sendAccepts(p, place);
                }
            }
            return came;
        }

        long deliver(int i) {
            needLetter(i);
            Mail m = row.remove(i);
            return m.kind == 0 || m.kind == 2 ? toStation(m) : toProposer(m);
        }

        int toStation(Mail m) {
            ModelStation st = stations[m.station];
            if (!st.up || st.wiped || m.ballot < st.promised) {
                return 0;
            }
            st.promised = m.ballot;
            if (m.kind == 0) {
                return send(new Mail(1, m.station, m.proposer, m.ballot, -1, -1, null, new TreeMap<>(st.accepted)));
            }
            st.accepted.put(m.place, m.content);
            return send(new Mail(3, m.station, m.proposer, m.ballot, m.place, m.identity, null, null));
        }

        int toProposer(Mail m) {
            ModelProposer pr = proposers[m.proposer];
            if (m.ballot != pr.ballot) {
                return 0;
            }
            if (m.kind == 1 && pr.phase == 1 && !pr.promises.containsKey(m.station)) {
                pr.promises.put(m.station, m.all);
                return pr.promises.size() == 5 ? lead(m.proposer) : 0;
            }
            if (m.kind == 3 && pr.phase == 2 && !pr.decided.containsKey(m.place) && pr.proposed.containsKey(m.place)
                    && pr.proposed.get(m.place) == m.identity) {
                pr.answers.get(m.place).add(m.station);
                if (pr.answers.get(m.place).size() == 5) {
                    pr.decided.put(m.place, m.identity);
                    Stats.decided++;
                }
            }
            return 0;
        }

        int lead(int p) {
            ModelProposer pr = proposers[p];
            pr.phase = 2;
            int came = 0;
            for (int place = 0; place < 8; place++) {
                int identity = pr.decided.containsKey(place) ? 0 : best(pr, place);
                if (identity != 0) {
                    Stats.rebuilt++;
                    pr.proposed.put(place, identity);
                    pr.answers.put(place, new TreeSet<>());
                    came += sendAccepts(p, place);
                }
            }
            return came;
        }

        static int best(ModelProposer pr, int place) {
            Map<Integer, Integer> shares = new TreeMap<>();
            Map<Integer, Integer> highest = new TreeMap<>();
            for (Map<Integer, Accepted> promise : pr.promises.values()) {
                Accepted a = promise.get(place);
                if (a != null) {
                    shares.merge(a.identity, 1, Integer::sum);
                    highest.merge(a.identity, a.ballot, Integer::max);
                }
            }
            int best = 0;
            for (int identity : shares.keySet()) {
                if (shares.get(identity) >= 3 && (best == 0 || highest.get(identity) > highest.get(best))) {
                    best = identity;
                }
            }
            Stats.mixed += shares.size() > 1 ? 1 : 0;
            Stats.tooFew += best == 0 && !shares.isEmpty() ? 1 : 0;
            return best;
        }

        long drop(int i) {
            needLetter(i);
            row.remove(i);
            return 0;
        }

        long twin(int i) {
            needLetter(i);
            if (row.size() >= 60) {
                throw new IllegalStateException();
            }
            row.add(row.get(i));
            return 0;
        }

        long letter(int i, int what) {
            needLetter(i);
            need(in(what, 6));
            Mail m = row.get(i);
            return new int[] {m.kind, m.station, m.proposer, m.ballot, m.place, m.identity}[what];
        }

        long up(int s, boolean is) {
            need(in(s, 7));
            boolean was = stations[s].up;
            stations[s].up = is;
            return was != is ? 1 : 0;
        }

        long wipe(int s) {
            need(in(s, 7));
            boolean up = stations[s].up;
            stations[s] = new ModelStation();
            stations[s].up = up;
            stations[s].wiped = true;
            return 0;
        }

        int holders(int place, int identity) {
            int count = 0;
            for (ModelStation st : stations) {
                Accepted a = st.accepted.get(place);
                count += st.up && a != null && a.identity == identity ? 1 : 0;
            }
            return count;
        }

        long catchUp(int s, int p) {
            need(in(s, 7) && in(p, 2));
            if (!stations[s].wiped || !stations[s].up) {
                throw new IllegalStateException();
            }
            int count = 0;
            for (int place : proposers[p].decided.keySet()) {
                int identity = proposers[p].decided.get(place);
                if (!stations[s].accepted.containsKey(place) && holders(place, identity) >= 3) {
                    stations[s].accepted.put(place, content(0, place, identity, s));
                    count++;
                    Stats.caughtUp++;
                }
            }
            return count;
        }

        long decided(int p, int place) {
            need(in(p, 2) && in(place, 8));
            return proposers[p].decided.getOrDefault(place, 0);
        }

        long read(int p, int place) {
            int identity = (int) decided(p, place);
            if (identity == 0) {
                throw new NoSuchElementException();
            }
            if (holders(place, identity) < 3) {
                throw new IllegalStateException();
            }
            lastRead = report(place, identity);
            Stats.read++;
            return lastRead.size();
        }

        long readByte(int i) {
            if (!in(i, lastRead.size())) {
                throw new IndexOutOfBoundsException();
            }
            return lastRead.get(i);
        }

        long state(int p, int what) {
            need(in(p, 2) && in(what, 4));
            ModelProposer pr = proposers[p];
            return new int[] {pr.phase, pr.ballot, pr.free(), pr.promises.size()}[what];
        }

        long station(int s, int what) {
            need(in(s, 7) && in(what, 4));
            ModelStation st = stations[s];
            int bytes = 0;
            for (Accepted a : st.accepted.values()) {
                bytes += a.share.length;
            }
            return new int[] {st.promised, bytes, st.up ? 1 : 0, st.wiped ? 1 : 0}[what];
        }

        long share(int s, int place, int what) {
            need(in(s, 7) && in(place, 8) && what >= 0);
            Accepted a = stations[s].accepted.get(place);
            if (a == null || what >= 3 + a.share.length) {
                return -1;
            }
            return what < 3 ? new int[] {a.ballot, a.identity, a.length}[what] : a.share[what - 3];
        }
    }

    /** How often the runs came where faults would hide. */
    private static final class Stats {
        static int decided;
        static int rebuilt;
        static int mixed;
        static int tooFew;
        static int lost;
        static int caughtUp;
        static int read;
    }

    /** The same numbers on every machine and at every time. */
    private static final class Dice {
        private long seed;

        Dice(long seed) {
            this.seed = seed * 0x9E3779B97F4A7C15L + 12345;
        }

        int below(int end) {
            seed = seed * 6364136223846793005L + 1442695040888963407L;
            return (int) ((seed >>> 33) % end);
        }

        /** Mostly 0 .. end - 1, now and then one that is not. */
        int argument(int end) {
            if (below(60) == 0) {
                int[] odd = {-1, end, end + 1, Integer.MAX_VALUE, Integer.MIN_VALUE};
                return odd[below(odd.length)];
            }
            return end == 0 ? 0 : below(end);
        }
    }

    private static long answer(LogHouse x, String name, int[] a) {
        switch (name) {
            case "byteIn": return x.byteIn(a[0], a[1], a[2]) ? 1 : 0;
            case "campaign": return x.campaign(a[0]);
            case "propose": return x.propose(a[0]);
            case "resend": return x.resend(a[0]);
            case "deliver": return x.deliver(a[0]);
            case "drop": x.drop(a[0]); return 0;
            case "twin": x.twin(a[0]); return 0;
            case "letters": return x.letters();
            case "letter": return x.letter(a[0], a[1]);
            case "up": return x.up(a[0], a[1] != 0) ? 1 : 0;
            case "wipe": x.wipe(a[0]); return 0;
            case "catchUp": return x.catchUp(a[0], a[1]);
            case "decided": return x.decided(a[0], a[1]);
            case "read": return x.read(a[0], a[1]);
            case "readByte": return x.readByte(a[0]);
            case "state": return x.state(a[0], a[1]);
            case "station": return x.station(a[0], a[1]);
            default: return x.share(a[0], a[1], a[2]);
        }
    }

    private static long answer(Model x, String name, int[] a) {
        switch (name) {
            case "byteIn": return x.byteIn(a[0], a[1], a[2]);
            case "campaign": return x.campaign(a[0]);
            case "propose": return x.propose(a[0]);
            case "resend": return x.resend(a[0]);
            case "deliver": return x.deliver(a[0]);
            case "drop": return x.drop(a[0]);
            case "twin": return x.twin(a[0]);
            case "letters": return x.row.size();
            case "letter": return x.letter(a[0], a[1]);
            case "up": return x.up(a[0], a[1] != 0);
            case "wipe": return x.wipe(a[0]);
            case "catchUp": return x.catchUp(a[0], a[1]);
            case "decided": return x.decided(a[0], a[1]);
            case "read": return x.read(a[0], a[1]);
            case "readByte": return x.readByte(a[0]);
            case "state": return x.state(a[0], a[1]);
            case "station": return x.station(a[0], a[1]);
            default: return x.share(a[0], a[1], a[2]);
        }
    }

    private static String told(Object x, String name, int[] a) {
        try {
            return Long.toString(x instanceof LogHouse h ? answer(h, name, a) : answer((Model) x, name, a));
        } catch (RuntimeException e) {
            return "throws." + e.getClass().getSimpleName();
        }
    }

    /** Weights of the calls that change something; each run leans another way. */
    private static String pick(Dice dice, int lean) {
        int k = dice.below(200);
        int loss = lean % 4 * 4;
        if (k < 110 - loss) {
            return "deliver";
        }
        if (k < 110) {
            return "drop";
        }
        String[] rare = {"wipe", "twin", "twin", "up", "campaign", "campaign", "catchUp", "resend", "drop"};
        if (k < 110 + rare.length) {
            return rare[k - 110];
        }
        if (k < 130) {
            return "byteIn";
        }
        if (k < 142) {
            return "propose";
        }
        String[] asked = {"letters", "letter", "decided", "read", "readByte", "readByte", "state", "station", "share",
            "share", "deliver", "deliver"};
        return asked[dice.below(asked.length)];
    }

    private static int[] arguments(Dice dice, String name, Model m, int lean) {
        int i = lean % 3 == 0 ? dice.argument(Math.min(2, m.row.size())) : dice.argument(m.row.size());
        switch (name) {
            case "byteIn":
                return new int[] {dice.argument(2), dice.below(1 << 30) * 4 + dice.below(4), 1 + dice.argument(4)};
            case "deliver":
            case "drop":
            case "twin":
                return new int[] {i};
            case "letter":
                return new int[] {i, dice.argument(6)};
            case "up":
                return new int[] {dice.argument(7), dice.below(3)};
            case "wipe":
                return new int[] {dice.below(4) == 0 ? dice.argument(7) : 7};
            case "catchUp":
                return new int[] {wipedOrAny(dice, m), dice.argument(2)};
            case "decided":
            case "read":
                return new int[] {dice.argument(2), dice.below(2) == 0 ? dice.argument(8) : dice.argument(2)};
            case "readByte":
                return new int[] {dice.argument(m.lastRead.size())};
            case "state":
                return new int[] {dice.argument(2), dice.argument(4)};
            case "station":
                return new int[] {dice.argument(7), dice.argument(4)};
            case "share":
                return new int[] {dice.argument(7), dice.below(2) == 0 ? dice.argument(8) : dice.below(2),
                    dice.argument(12)};
            default:
                return new int[] {dice.argument(2)};
        }
    }

    private static int wipedOrAny(Dice dice, Model m) {
        for (int s = 0; s < 7; s++) {
            if (m.stations[s].wiped && dice.below(2) == 0) {
                return s;
            }
        }
        return dice.argument(7);
    }

    private static void run(int number) {
        Dice dice = new Dice(number);
        LogHouse house = new LogHouse();
        Model model = new Model();
        StringBuilder story = new StringBuilder();
        for (int k = 0; k < CALLS; k++) {
            String name = pick(dice, number);
            int[] a = arguments(dice, name, model, number);
            String want = told(model, name, a);
            String got = told(house, name, a);
            String call = name + Arrays.toString(a);
            story.append(call).append(" -> ").append(want).append('\n');
            Check.due("run " + number + ", call " + k + ": " + call, want, got);
            if (Check.hasFault()) {
                System.out.println(story);
                return;
            }
        }
    }

    private static void dueOften(String what, int count, int least) {
        Check.due(what + " came " + count + " times, enough", true, count >= least);
    }

    public static void main(String[] args) {
        for (int number = 0; number < RUNS && !Check.hasFault(); number++) {
            run(number);
        }
        if (!Check.hasFault()) {
            System.out.println("decided " + Stats.decided + ", rebuilt " + Stats.rebuilt + ", mixed " + Stats.mixed
                    + ", too few " + Stats.tooFew + ", lost " + Stats.lost + ", caught up " + Stats.caughtUp
                    + ", read " + Stats.read);
            dueOften("decided", Stats.decided, 1000);
            dueOften("rebuilt", Stats.rebuilt, 1000);
            dueOften("mixed", Stats.mixed, 100);
            dueOften("too few", Stats.tooFew, 100);
            dueOften("lost", Stats.lost, 1000);
            dueOften("caught up", Stats.caughtUp, 300);
            dueOften("read", Stats.read, 1000);
        }
        Check.end("ModelTest");
    }
}
