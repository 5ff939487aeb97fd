import java.util.ArrayList;
import java.util.HashMap;
import java.util.HashSet;
import java.util.List;
import java.util.Map;
import java.util.Random;
import java.util.Set;
import java.util.TreeMap;
import java.util.function.IntUnaryOperator;
import java.util.function.Supplier;

/**
 * Compares the class with a second program, which is written from the document in another way: bits are texts, the
 * best path goes forward and keeps the text of each survivor, and what a station knows stands in maps.
 */
public final class ModelTests {
    private static final Map<String, Integer> seen = new TreeMap<>();
    private static int wrong = 0;

    public static void main(String[] args) {
        for (int run = 0; run < 700; run++) {
            new Run(run).play();
        }
        for (String event : List.of("arrived", "lost", "arrived after loss", "mended", "garbled", "tries 5", "wishes 3",
                "wishes 16", "way of 3 hops", "way gone", "wish relayed", "tie broken", "16 messages", "600 slots")) {
            if (!seen.containsKey(event)) {
                wrong++;
                System.out.println("no run shows: " + event);
            }
        }
        System.out.println(seen);
        System.out.println("model: " + (wrong == 0 ? "all answers are as due" : wrong + " answers are not as due"));
        if (wrong != 0) {
            System.exit(1);
        }
    }

    private static void saw(String event) {
        seen.merge(event, 1, Integer::sum);
    }

    private static String answerOf(Supplier<Object> call) {
        try {
            return String.valueOf(call.get());
        } catch (RuntimeException e) {
            return e.getClass().getSimpleName();
        }
    }

    /** One run of calls on one object and one model. */
    private static final class Run {
        final int number;
        final Random dice;
        final Radiohearth x = new Radiohearth();
        final Model m = new Model();
        int calls = 0;

        Run(int number) {
            this.number = number;
            this.dice = new Random(977L * number + 5);
        }

        int from(int least, int most) {
            return least + dice.nextInt(most - least + 1);
        }

        void same(String call, Supplier<Object> got, Supplier<Object> due) {
            calls++;
            String a = answerOf(got);
            String b = answerOf(due);
            if (!a.equals(b)) {
                wrong++;
                if (wrong < 40) {
                    System.out.println("run " + number + ", call " + calls + ": " + call + " answered " + a
                            + ", due is " + b);
                }
            }
        }

        void play() {
            int kind = number % 7;
            int many = kind == 6 ? from(0, 3) : from(2, 6);
            int gap = from(1, 15);
            for (int i = 0; i < many; i++) {
                int place = kind < 4 ? Math.min(63, i * gap) : from(0, 40);
                add(place, from(1, 4), from(1, 999));
            }
            if (kind >= 1 && kind != 4) {
                int level = kind == 3 ? from(0, 99) : from(0, 20);
                same("setNoise", () -> x.setNoise(level), () -> m.setNoise(level));
                int echo = from(-3, 3);
                same("setEcho", () -> x.setEcho(echo), () -> m.setEcho(echo));
            }
            while (calls < 512) {
                step(kind);
            }
        }

        void add(int place, int power, int seed) {
            same("addStation", () -> x.addStation(place, power, seed), () -> m.addStation(place, power, seed));
        }

        void step(int kind) {
            int turn = dice.nextInt(100);
            int a = from(-1, 6);
            int b = from(-1, 6);
            int n = m.stations.size();
            if (turn < 18 && n > 1) {
                int s = kind == 5 ? 0 : dice.nextInt(n);
                int g = dice.nextInt(n);
                int v = from(-1, 256);
                same("send", () -> x.send(s, g, v), () -> m.send(s, g, v));
            } else if (turn < 40) {
                int k = slotsToPass(kind);
                same("slot " + k, () -> x.slot(k), () -> m.slot(k));
                lookAtAll();
            } else if (turn < 42) {
                add(from(-1, 64), from(0, 5), from(0, 1000));
            } else if (turn < 44) {
                int p = dice.nextBoolean() ? from(-1, 64) : from(0, 30);
                same("move", () -> x.move(a, p), () -> m.move(a, p));
            } else if (turn < 45) {
                int p = from(0, 5);
                same("setPower", () -> x.setPower(a, p), () -> m.setPower(a, p));
            } else if (turn < 46) {
                int p = dice.nextBoolean() ? from(-1, 100) : 3;
                same("setNoise", () -> x.setNoise(p), () -> m.setNoise(p));
                int e = from(-4, 4);
                same("setEcho", () -> x.setEcho(e), () -> m.setEcho(e));
            } else if (turn < 52) {
                same("gain", () -> x.gain(a, b), () -> m.gain(a, b));
                same("hopsByFlood", () -> x.hopsByFlood(a, b), () -> m.hopsByFlood(a, b));
            } else if (turn < 60) {
                same("wayOver", () -> x.wayOver(a, b), () -> m.wayOver(a, b));
                same("wayHops", () -> x.wayHops(a, b), () -> m.wayHops(a, b));
            } else if (turn < 72) {
                words();
            } else {
                look(a);
            }
        }

        int slotsToPass(int kind) {
            int left = 600 - m.slots;
            if (left <= 20 && dice.nextBoolean()) {
                return left;
            }
            if (dice.nextInt(12) == 0) {
                return from(0, 21);
            }
            return kind == 5 ? from(12, 20) : from(1, 5);
        }

        void look(int a) {
            int i = from(-1, 88);
            int k = from(-1, 6);
            int q = from(-1, m.messages.size());
            same("sample " + i, () -> x.sample(a, i), () -> m.sample(a, i));
            same("fate", () -> x.fate(q), () -> m.fate(q));
            same("arrivedIn", () -> x.arrivedIn(q), () -> m.arrivedIn(q));
            same("arrivalAt", () -> x.arrivalAt(a, k), () -> m.arrivalAt(a, k));
            switch (dice.nextInt(12)) {
                case 0: same("arrivals", () -> x.arrivals(a), () -> m.arrivals(a)); break;
                case 1: same("queue", () -> x.queue(a), () -> m.queue(a)); break;
                case 2: same("waitOf", () -> x.waitOf(a), () -> m.waitOf(a)); break;
                case 3: same("tries", () -> x.tries(a), () -> m.tries(a)); break;
                case 4: same("wishes", () -> x.wishes(a), () -> m.wishes(a)); break;
                case 5: same("heard", () -> x.heard(a), () -> m.heard(a)); break;
                case 6: same("frame", () -> x.frame(a), () -> m.frame(a)); break;
                case 7: same("mended", () -> x.mended(a), () -> m.mended(a)); break;
                case 8: same("spoken", () -> x.spoken(a), () -> m.spoken(a)); break;
                case 9: same("share", () -> x.share(), () -> m.share()); break;
                case 10: same("meanSlots", () -> x.meanSlots(), () -> m.meanSlots()); break;
                default: same("isSound", () -> x.isSound(), () -> true); break;
            }
        }

        // These looks change nothing, and are not counted, so that every slot can be looked at.
        void lookAtAll() {
            int before = calls;
            for (int s = 0; s < m.stations.size(); s++) {
                int a = s;
                same("heard " + a, () -> x.heard(a), () -> m.heard(a));
                same("frame " + a, () -> x.frame(a), () -> m.frame(a));
                same("mended " + a, () -> x.mended(a), () -> m.mended(a));
                same("queue " + a, () -> x.queue(a), () -> m.queue(a));
                same("waitOf " + a, () -> x.waitOf(a), () -> m.waitOf(a));
                same("tries " + a, () -> x.tries(a), () -> m.tries(a));
                same("wishes " + a, () -> x.wishes(a), () -> m.wishes(a));
                same("spoken " + a, () -> x.spoken(a), () -> m.spoken(a));
                same("arrivals " + a, () -> x.arrivals(a), () -> m.arrivals(a));
                same("samples of " + a, () -> allSamples(k -> x.sample(a, k)), () -> allSamples(k -> m.sample(a, k)));
                for (int t = 0; t < m.stations.size(); t++) {
                    int b = t;
                    same("wayOver " + a + " " + b, () -> x.wayOver(a, b), () -> m.wayOver(a, b));
                    same("wayHops " + a + " " + b, () -> x.wayHops(a, b), () -> m.wayHops(a, b));
                }
            }
            for (int q = 0; q < m.messages.size(); q++) {
                int k = q;
                same("fate " + k, () -> x.fate(k), () -> m.fate(k));
            }
            calls = before;
        }

        String allSamples(IntUnaryOperator call) {
            StringBuilder text = new StringBuilder();
            for (int i = 0; i < 88; i++) {
                text.append(call.applyAsInt(i)).append(' ');
            }
            return text.toString();
        }

        void words() {
            for (int i = from(0, 6); i > 0; i--) {
                char c = (char) from('/', '2');
                same("type", () -> x.type(c), () -> m.type(c));
            }
            if (dice.nextInt(3) == 0) {
                same("code", () -> x.code(), () -> m.code());
            }
            int most = dice.nextBoolean() ? 3 : 100;
            for (int i = from(0, 8); i > 0; i--) {
                int at = from(-1, 24);
                int w = from(-most, most);
                same("setWeight", () -> x.setWeight(at, w), () -> m.setWeight(at, w));
                same("weight", () -> x.weight(at), () -> m.weight(at));
            }
            same("decode", () -> x.decode(), () -> m.decode());
            same("decodeByTrying", () -> x.decodeByTrying(), () -> m.decode());
            same("sum", () -> x.sum(), () -> m.sum());
        }
    }

    private static final class Packet {
        String kind;
        int from;
        int to;
        int origin;
        int goal;
        int number;
        int value;

        Packet(String kind, int origin, int goal, int number, int value) {
            this.kind = kind;
            this.origin = origin;
            this.goal = goal;
            this.number = number;
            this.value = value;
        }

        String name() {
            return kind + " " + origin + " " + number;
        }

        String bits() {
            return binary(KINDS.indexOf(kind), 2) + binary(from, 3) + binary(to, 3) + binary(origin, 3)
                    + binary(goal, 3) + binary(number, 4) + binary(value % 256, 8);
        }

        static Packet of(String bits) {
            Packet p = new Packet(KINDS.get(worth(bits, 0, 2)), worth(bits, 8, 11), worth(bits, 11, 14),
                    worth(bits, 14, 18), worth(bits, 18, 26));
            p.from = worth(bits, 2, 5);
            p.to = worth(bits, 5, 8);
            return p;
        }
    }

    private static final List<String> KINDS = List.of("data", "answer", "wish", "way");

    private static int worth(String bits, int start, int end) {
        return Integer.parseInt(bits.substring(start, end), 2);
    }

    private static String binary(int number, int length) {
        StringBuilder text = new StringBuilder(Integer.toBinaryString(number));
        while (text.length() < length) {
            text.insert(0, '0');
        }
        return text.toString();
    }

    private static String check(String bits) {
        int register = 65535;
        for (char c : bits.toCharArray()) {
            boolean high = register >= 32768;
            register = register * 2 % 65536;
            if (high != (c == '1')) {
                register ^= 4129;
            }
        }
        return binary(register, 16);
    }

    private static String whiten(String bits) {
        List<Integer> register = new ArrayList<>(List.of(1, 1, 1, 1, 1, 1, 1));
        StringBuilder text = new StringBuilder();
        for (char c : bits.toCharArray()) {
            int fresh = register.get(0) ^ register.get(3);
            register.remove(0);
            register.add(fresh);
            text.append((c - '0') ^ fresh);
        }
        return text.toString();
    }

    private static String code(String word) {
        String padded = "00" + word + "00";
        StringBuilder text = new StringBuilder();
        for (int i = 2; i < padded.length(); i++) {
            int a = padded.charAt(i) - '0';
            int b = padded.charAt(i - 1) - '0';
            int c = padded.charAt(i - 2) - '0';
            text.append((a + b + c) % 2).append((a + c) % 2);
        }
        return text.toString();
    }

    private static long sumOf(int[] weights, String coded) {
        long sum = 0;
        for (int i = 0; i < weights.length; i++) {
            sum += coded.charAt(i) == '0' ? weights[i] : -weights[i];
        }
        return sum;
    }

    /** The survivors by their last two bits; each is a text, so that ties are broken by comparing texts. */
    private static String bestWord(int[] weights) {
        int steps = weights.length / 2;
        Map<String, String> words = new HashMap<>();
        Map<String, Long> sums = new HashMap<>();
        words.put("00", "");
        sums.put("00", 0L);
        for (int i = 0; i < steps; i++) {
            Map<String, String> nextWords = new HashMap<>();
            Map<String, Long> nextSums = new HashMap<>();
            for (String state : words.keySet()) {
                for (char bit : (i < steps - 2 ? "01" : "0").toCharArray()) {
                    int b = (bit - '0') ^ (state.charAt(1) - '0') ^ (state.charAt(0) - '0');
                    int c = (bit - '0') ^ (state.charAt(0) - '0');
                    long sum = sums.get(state) + (b == 0 ? weights[2 * i] : -weights[2 * i])
                            + (c == 0 ? weights[2 * i + 1] : -weights[2 * i + 1]);
                    String next = "" + state.charAt(1) + bit;
                    String word = words.get(state) + bit;
                    Long old = nextSums.get(next);
                    if (old != null && old == sum) {
                        saw("tie broken");
                    }
                    if (old == null || sum > old || sum == old && word.compareTo(nextWords.get(next)) < 0) {
                        nextSums.put(next, sum);
                        nextWords.put(next, word);
                    }
                }
            }
            words = nextWords;
            sums = nextSums;
        }
        return words.get("00").substring(0, steps - 2);
    }

    private static int random(int seed) {
        return (seed >>> 16) % 32768;
    }

    private static final class Post {
        int station;
        int goal;
        int number;
        int value;
        int sentAfter;
        int slot = 0;
        char fate = '-';
    }

    private static final class Place {
        int at;
        int power;
        int seed;
        int wait = 0;
        int tries = 0;
        int sent = 0;
        int wished = 0;
        int spoken = 0;
        List<Packet> queue = new ArrayList<>();
        Map<Integer, int[]> ways = new HashMap<>();
        Set<String> known = new HashSet<>();
        List<Integer> came = new ArrayList<>();
        Packet wishFor = null;
        List<Integer> wishSlots = new ArrayList<>();
        Packet owed = null;
        Packet voice = null;
        Packet lastVoice = null;
        String coded = "";
        char did = 'q';
        int[] samples = null;
        String understood = null;
        int mended = 0;

        int draw() {
            seed = seed * 1103515245 + 12345;
            return random(seed);
        }
    }

    private static final class Model {
        List<Place> stations = new ArrayList<>();
        List<Post> messages = new ArrayList<>();
        int level = 0;
        int echo = 0;
        int seed = 1;
        int slots = 0;
        String typed = "";
        int[] weights = null;

        void need(boolean fine, RuntimeException e) {
            if (!fine) {
                throw e;
            }
        }

        RuntimeException bad() {
            return new IllegalArgumentException();
        }

        RuntimeException none() {
            return new java.util.NoSuchElementException();
        }

        Place at(int i) {
            need(i >= 0 && i < stations.size(), new IndexOutOfBoundsException());
            return stations.get(i);
        }

        int addStation(int place, int power, int s) {
            need(place >= 0 && place < 64 && power > 0 && power < 5 && s > 0 && s < 1000, bad());
            need(stations.size() < 6, new IllegalStateException());
            Place p = new Place();
            p.at = place;
            p.power = power;
            p.seed = s;
            stations.add(p);
            return stations.size() - 1;
        }

        int move(int i, int place) {
            Place p = at(i);
            need(place >= 0 && place < 64, bad());
            int old = p.at;
            p.at = place;
            return old;
        }

        int setPower(int i, int power) {
            Place p = at(i);
            need(power > 0 && power < 5, bad());
            int old = p.power;
            p.power = power;
            return old;
        }

        int setNoise(int l) {
            need(l >= 0 && l < 100, bad());
            int old = level;
            level = l;
            return old;
        }

        int setEcho(int e) {
            need(e > -4 && e < 4, bad());
            int old = echo;
            echo = e;
            return old;
        }

        int gain(int a, int b) {
            int apart = at(a).at - at(b).at;
            int g = apart < 0 ? 16 + apart : 16 - apart;
            return g < 0 ? 0 : g;
        }

        int send(int a, int b, int value) {
            Place p = at(a);
            at(b);
            need(a != b && value >= 0 && value < 256, bad());
            need(p.sent < 16, new IllegalStateException());
            Post post = new Post();
            post.station = a;
            post.goal = b;
            post.number = p.sent++;
            post.value = value;
            post.sentAfter = slots;
            if (p.sent == 16) {
                saw("16 messages");
            }
            p.queue.add(new Packet("data", a, b, post.number, value));
            messages.add(post);
            return messages.size() - 1;
        }

        Post post(int i) {
            need(i >= 0 && i < messages.size(), new IndexOutOfBoundsException());
            return messages.get(i);
        }

        char fate(int i) {
            return post(i).fate;
        }

        int arrivedIn(int i) {
            need(post(i).fate == 'a', none());
            return post(i).slot;
        }

        int arrivals(int i) {
            return at(i).came.size();
        }

        int arrivalAt(int i, int k) {
            Place p = at(i);
            need(k >= 0 && k < p.came.size(), none());
            return p.came.get(k);
        }

        int queue(int i) {
            return at(i).queue.size();
        }

        int waitOf(int i) {
            return at(i).wait;
        }

        int tries(int i) {
            return at(i).tries;
        }

        int[] way(int a, int b) {
            Place p = at(a);
            at(b);
            need(a != b, bad());
            need(p.ways.containsKey(b), none());
            return p.ways.get(b);
        }

        int wayOver(int a, int b) {
            return way(a, b)[0];
        }

        int wayHops(int a, int b) {
            if (way(a, b)[1] == 3) {
                saw("way of 3 hops");
            }
            return way(a, b)[1];
        }

        int hopsByFlood(int a, int b) {
            at(a);
            at(b);
            need(a != b, bad());
            Set<Integer> reached = new HashSet<>(Set.of(a));
            for (int hops = 1; hops <= stations.size(); hops++) {
                Set<Integer> more = new HashSet<>(reached);
                for (int s : reached) {
                    for (int t = 0; t < stations.size(); t++) {
                        if (gain(s, t) > 0) {
                            more.add(t);
                        }
                    }
                }
                reached = more;
                if (reached.contains(b)) {
                    return hops;
                }
            }
            throw none();
        }

        int wishes(int i) {
            return at(i).wished;
        }

        char heard(int i) {
            return at(i).did;
        }

        int sample(int i, int k) {
            Place p = at(i);
            need(p.samples != null && k >= 0 && k < 88, none());
            return p.samples[k];
        }

        int frame(int i) {
            Place p = at(i);
            need(p.understood != null, none());
            return Integer.parseInt(p.understood, 2);
        }

        int mended(int i) {
            Place p = at(i);
            need(p.understood != null, none());
            return p.mended;
        }

        int spoken(int i) {
            return at(i).spoken;
        }

        int type(char c) {
            need(c == '0' || c == '1', bad());
            need(typed.length() < 10, new IllegalStateException());
            typed += c;
            return typed.length();
        }

        int code() {
            String coded = ModelTests.code(typed);
            weights = new int[coded.length()];
            for (int i = 0; i < weights.length; i++) {
                weights[i] = coded.charAt(i) == '0' ? 8 : -8;
            }
            typed = "";
            return weights.length;
        }

        int weight(int i) {
            need(weights != null && i >= 0 && i < weights.length, new IndexOutOfBoundsException());
            return weights[i];
        }

        int setWeight(int i, int w) {
            int old = weight(i);
            need(w >= -99 && w <= 99, bad());
            weights[i] = w;
            return old;
        }

        String decoded() {
            need(weights != null, none());
            String word = bestWord(weights);
            String tried = null;
            int length = weights.length / 2 - 2;
            for (int i = 0; i < 1 << length; i++) {
                String next = length == 0 ? "" : binary(i, length);
                if (tried == null || sumOf(weights, ModelTests.code(next)) > sumOf(weights, ModelTests.code(tried))) {
                    tried = next;
                }
            }
            if (!word.equals(tried)) {
                throw new UnsupportedOperationException("the model is at odds with itself");
            }
            return word;
        }

        int decode() {
            return Integer.parseInt("1" + decoded(), 2);
        }

        long sum() {
            return sumOf(weights, ModelTests.code(decoded()));
        }

        float share() {
            need(!messages.isEmpty(), none());
            return (float) messages.stream().filter(p -> p.fate == 'a').count() / (float) messages.size();
        }

        double meanSlots() {
            double sum = 0;
            double count = 0;
            for (Post p : messages) {
                if (p.fate == 'a') {
                    sum += p.slot - p.sentAfter;
                    count++;
                }
            }
            need(count > 0, none());
            return sum / count;
        }

        int slot(int many) {
            need(many >= 1 && many <= 20 && slots + many <= 600, bad());
            for (int i = 0; i < many; i++) {
                one();
            }
            if (slots == 600) {
                saw("600 slots");
            }
            return slots;
        }

        void one() {
            slots++;
            for (int i = 0; i < stations.size(); i++) {
                turn(i, stations.get(i));
            }
            for (int i = 0; i < stations.size(); i++) {
                listen(i, stations.get(i));
            }
            for (int i = 0; i < stations.size(); i++) {
                Place p = stations.get(i);
                if (p.understood != null) {
                    Packet got = Packet.of(p.understood);
                    if (got.to == i || got.to == 7) {
                        take(i, p, got);
                    }
                }
            }
            for (Place p : stations) {
                noAnswer(p);
            }
        }

        void turn(int i, Place p) {
            p.lastVoice = p.voice;
            p.voice = null;
            p.did = 'q';
            p.samples = null;
            p.understood = null;
            wish(i, p);
            Packet out = null;
            if (p.owed != null) {
                out = p.owed;
                p.owed = null;
            } else if (p.lastVoice != null && (p.lastVoice.kind.equals("data") || p.lastVoice.kind.equals("way"))) {
                return;
            } else if (p.wait > 0) {
                p.wait--;
                return;
            } else {
                for (Packet q : p.queue) {
                    if (q.kind.equals("wish") || p.ways.containsKey(q.goal)) {
                        out = q;
                        break;
                    }
                }
                if (out == null) {
                    return;
                }
                if (out.kind.equals("wish")) {
                    p.queue.remove(out);
                    out.to = 7;
                } else {
                    out.to = p.ways.get(out.goal)[0];
                }
            }
            out.from = i;
            p.voice = out;
            p.did = 's';
            p.spoken++;
            p.coded = ModelTests.code(whiten(out.bits() + check(out.bits())));
        }

        void wish(int i, Place p) {
            Packet first = null;
            for (Packet q : p.queue) {
                if ((q.kind.equals("data") || q.kind.equals("way")) && !p.ways.containsKey(q.goal)) {
                    first = q;
                    break;
                }
            }
            if (first == null) {
                return;
            }
            if (p.wishFor != first) {
                p.wishFor = first;
                p.wishSlots.clear();
            }
            int made = p.wishSlots.size();
            if (made > 0 && slots - p.wishSlots.get(made - 1) < 12) {
                return;
            }
            if (made == 3 || p.wished == 16) {
                saw(made == 3 ? "wishes 3" : "wishes 16");
                giveUp(p, first);
                return;
            }
            p.wishSlots.add(slots);
            p.queue.add(0, new Packet("wish", i, first.goal, p.wished++, 0));
        }

        void giveUp(Place p, Packet gone) {
            p.queue.remove(gone);
            if (gone.kind.equals("data")) {
                for (Post post : messages) {
                    if (post.station == gone.origin && post.number == gone.number && post.fate == '-') {
                        post.fate = 'l';
                        saw("lost");
                    }
                }
            }
        }

        void listen(int i, Place p) {
            if (p.voice != null) {
                return;
            }
            boolean comes = false;
            for (int k = 0; k < stations.size(); k++) {
                comes |= stations.get(k).voice != null && gain(k, i) > 0;
            }
            if (!comes) {
                return;
            }
            int[] clean = new int[89];
            p.samples = new int[88];
            int[] back = new int[88];
            for (int column = 0, n = 0; column < 11; column++) {
                for (int row = 0; row < 8; row++, n++) {
                    for (int k = 0; k < stations.size(); k++) {
                        Place q = stations.get(k);
                        if (q.voice != null) {
                            int sign = q.coded.charAt(11 * row + column) == '0' ? 1 : -1;
                            clean[n + 1] += sign * q.power * gain(k, i);
                        }
                    }
                    seed = seed * 1103515245 + 12345;
                    int noise = random(seed) % (2 * level + 1) - level;
                    int bent = echo * clean[n];
                    bent = bent < 0 ? -(-bent / 4) : bent / 4;
                    int all = clean[n + 1] + bent + noise;
                    p.samples[n] = all > 127 ? 127 : all < -127 ? -127 : all;
                    back[11 * row + column] = p.samples[n];
                }
            }
            String word = bestWord(back);
            String bits = whiten(word);
            p.did = 'c';
            if (!check(bits.substring(0, 26)).equals(bits.substring(26))) {
                saw("garbled");
                return;
            }
            p.did = 'u';
            p.understood = bits.substring(0, 26);
            p.mended = 0;
            String coded = ModelTests.code(word);
            for (int k = 0; k < 88; k++) {
                if (back[k] > 0 && coded.charAt(k) == '1' || back[k] < 0 && coded.charAt(k) == '0') {
                    p.mended++;
                }
            }
            if (p.mended > 0) {
                saw("mended");
            }
        }

        void take(int i, Place p, Packet got) {
            if (got.kind.equals("answer")) {
                Packet was = p.lastVoice;
                if (was != null && was.to == got.from && was.origin == got.origin && was.number == got.number
                        && (was.kind.equals("data") && got.value == 0 || was.kind.equals("way") && got.value == 1)) {
                    p.queue.remove(was);
                    p.tries = 0;
                    p.lastVoice = null;
                }
                return;
            }
            if (got.kind.equals("wish")) {
                if (got.origin == i || !p.known.add(got.name())) {
                    return;
                }
                int[] old = p.ways.get(got.origin);
                if (old == null || old[1] > got.value + 1) {
                    p.ways.put(got.origin, new int[] {got.from, got.value + 1});
                }
                if (got.goal == i) {
                    p.queue.add(new Packet("way", i, got.origin, got.number, 0));
                } else {
                    saw("wish relayed");
                    p.queue.add(new Packet("wish", got.origin, got.goal, got.number, got.value + 1));
                    if (p.wait == 0) {
                        p.wait = p.draw() % 4;
                    }
                }
                return;
            }
            boolean data = got.kind.equals("data");
            p.owed = new Packet("answer", got.origin, got.goal, got.number, data ? 0 : 1);
            p.owed.to = got.from;
            if (!p.known.add(got.name())) {
                return;
            }
            if (!data) {
                p.ways.put(got.origin, new int[] {got.from, got.value + 1});
            }
            if (got.goal != i) {
                p.queue.add(new Packet(got.kind, got.origin, got.goal, got.number, data ? got.value : got.value + 1));
            } else if (data) {
                for (Post post : messages) {
                    if (post.station == got.origin && post.number == got.number && post.goal == i) {
                        saw(post.fate == 'l' ? "arrived after loss" : "arrived");
                        post.fate = 'a';
                        post.slot = slots;
                        p.came.add(post.value);
                    }
                }
            }
        }

        void noAnswer(Place p) {
            Packet was = p.lastVoice;
            if (was == null || !(was.kind.equals("data") || was.kind.equals("way"))) {
                return;
            }
            p.tries++;
            if (p.tries < 5) {
                p.wait = p.draw() % (1 << p.tries);
                return;
            }
            saw("tries 5");
            p.tries = 0;
            giveUp(p, was);
            if (p.ways.values().removeIf(w -> w[0] == was.to)) {
                saw("way gone");
            }
        }
    }
}
