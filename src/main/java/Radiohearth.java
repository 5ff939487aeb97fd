import java.util.ArrayList;
import java.util.Arrays;
import java.util.NoSuchElementException;

/** Stations that speak over noise. */
public final class Radiohearth {
    private static final int MOST_STATIONS = 6;
    private static final int MOST_PLACE = 63;
    private static final int MOST_POWER = 4;
    private static final int MOST_SEED = 999;
    private static final int MOST_NOISE = 99;
    private static final int MOST_ECHO = 3;
    private static final int MOST_VALUE = 255;
    private static final int MOST_SENT = 16;
    private static final int MOST_SLOTS_A_CALL = 20;
    private static final int MOST_SLOTS = 600;
    private static final int MOST_TYPED = 10;
    private static final int MOST_WEIGHT = 99;

    private static final int DATA = 0;
    private static final int ANSWER = 1;
    private static final int WISH = 2;
    private static final int WAY = 3;
    private static final int TO_ALL = 7;
    private static final int NOBODY = -1;

    private static final int FRAME_BITS = 26;
    private static final int CHECK_BITS = 16;
    private static final int WORD_BITS = FRAME_BITS + CHECK_BITS;
    private static final int TAIL_BITS = 2;
    private static final int SAMPLES = 2 * (WORD_BITS + TAIL_BITS);
    private static final int ROWS = 8;
    private static final int COLUMNS = SAMPLES / ROWS;
    private static final int LOUDEST = 127;

    private static final int SLOTS_BETWEEN_WISHES = 12;
    private static final int WISHES_A_FRAME = 3;
    private static final int WISHES_A_STATION = 16;
    private static final int TRIES_TO_GIVE_UP = 5;

    private final Net net;
    private final Word word;

    public Radiohearth() {
        net = new Net();
        word = new Word();
    }

    // ---- stations and air

    public int addStation(int place, int power, int seed) throws IllegalArgumentException, IllegalStateException {
        if (!isWithin(place, 0, MOST_PLACE) || !isWithin(power, 1, MOST_POWER) || !isWithin(seed, 1, MOST_SEED)) {
            throw new IllegalArgumentException("an argument is out of range");
        }
        int number = net.stations.size();
        if (number >= MOST_STATIONS) {
            throw new IllegalStateException("there are 6 stations");
        }
        net.stations.add(new Station(number, place, power, seed));
        return number;
    }

    public int move(int station, int place) throws IndexOutOfBoundsException, IllegalArgumentException {
        Station mover = stationOf(station);
        refuseUnless(isWithin(place, 0, MOST_PLACE));
        int before = mover.place;
        mover.place = place;
        return before;
    }

    public int setPower(int station, int power) throws IndexOutOfBoundsException, IllegalArgumentException {
        Station changed = stationOf(station);
        refuseUnless(isWithin(power, 1, MOST_POWER));
        int before = changed.power;
        changed.power = power;
        return before;
    }

    public int setNoise(int level) throws IllegalArgumentException {
        refuseUnless(isWithin(level, 0, MOST_NOISE));
        int before = net.air.level;
        net.air.level = level;
        return before;
    }

    public int setEcho(int echo) throws IllegalArgumentException {
        refuseUnless(isWithin(echo, -MOST_ECHO, MOST_ECHO));
        int before = net.air.echo;
        net.air.echo = echo;
        return before;
    }

    public int gain(int station, int other) throws IndexOutOfBoundsException {
        Station one = stationOf(station);
        Station another = stationOf(other);
        return Air.gainBetween(one, another);
    }

    // ---- messages and slots

    public int send(int station, int goal, int value)
            throws IndexOutOfBoundsException, IllegalArgumentException, IllegalStateException {
        Station sender = stationOf(station);
        refuseUnlessTwo(station, goal);
        refuseUnless(isWithin(value, 0, MOST_VALUE));
        if (sender.sent >= MOST_SENT) {
            throw new IllegalStateException("the station has sent 16 messages");
        }
        return net.putMessage(sender, goal, value);
    }

    public int slot(int many) throws IllegalArgumentException {
        refuseUnless(isWithin(many, 1, MOST_SLOTS_A_CALL));
        refuseUnless(net.slots + many <= MOST_SLOTS);
        for (int i = 0; i < many; i++) {
            net.passSlot();
        }
        return net.slots;
    }

    public char fate(int message) throws IndexOutOfBoundsException {
        Message asked = messageOf(message);
        if (asked.hasArrived()) {
            return 'a';
        }
        return asked.lost ? 'l' : '-';
    }

    public int arrivedIn(int message) throws IndexOutOfBoundsException, NoSuchElementException {
        Message asked = messageOf(message);
        if (!asked.hasArrived()) {
            throw new NoSuchElementException("the message has not arrived");
        }
        return asked.arrivalSlot;
    }

    public int arrivals(int station) throws IndexOutOfBoundsException {
        return stationOf(station).arrived.size();
    }

    public int arrivalAt(int station, int index) throws IndexOutOfBoundsException, NoSuchElementException {
        ArrayList<Message> arrived = stationOf(station).arrived;
        if (index < 0 || index >= arrived.size()) {
            throw new NoSuchElementException("there is no such message");
        }
        return arrived.get(index).value;
    }

    public int queue(int station) throws IndexOutOfBoundsException {
        return stationOf(station).frames.size();
    }

    public int waitOf(int station) throws IndexOutOfBoundsException {
        return stationOf(station).pause;
    }

    public int tries(int station) throws IndexOutOfBoundsException {
        return stationOf(station).failures;
    }

    public int wayOver(int station, int goal)
            throws IndexOutOfBoundsException, IllegalArgumentException, NoSuchElementException {
        Ways ways = waysOf(station, goal);
        return ways.overWhom(goal);
    }

    public int wayHops(int station, int goal)
            throws IndexOutOfBoundsException, IllegalArgumentException, NoSuchElementException {
        Ways ways = waysOf(station, goal);
        return ways.hopsTo(goal);
    }

    public int hopsByFlood(int station, int goal)
            throws IndexOutOfBoundsException, IllegalArgumentException, NoSuchElementException {
        stationOf(station);
        refuseUnlessTwo(station, goal);
        int hops = net.flood(station, goal);
        if (hops < 0) {
            throw new NoSuchElementException("there is no such way");
        }
        return hops;
    }

    public int wishes(int station) throws IndexOutOfBoundsException {
        return stationOf(station).wishing.made;
    }

    // ---- what was heard

    public char heard(int station) throws IndexOutOfBoundsException {
        return stationOf(station).ear.deed;
    }

    public int sample(int station, int index) throws IndexOutOfBoundsException, NoSuchElementException {
        Ear ear = stationOf(station).ear;
        if (!ear.hasHeard() || index < 0 || index >= ear.samples.length) {
            throw new NoSuchElementException("there is no such sample");
        }
        return ear.samples[index];
    }

    public int frame(int station) throws IndexOutOfBoundsException, NoSuchElementException {
        return earThatUnderstood(station).understood;
    }

    public int mended(int station) throws IndexOutOfBoundsException, NoSuchElementException {
        return earThatUnderstood(station).mendedSamples;
    }

    public int spoken(int station) throws IndexOutOfBoundsException {
        return stationOf(station).spokenFrames;
    }

    // ---- words

    public int type(char bit) throws IllegalArgumentException, IllegalStateException {
        refuseUnless(bit == '0' || bit == '1');
        if (word.length >= MOST_TYPED) {
            throw new IllegalStateException("the word has 10 bits");
        }
        word.add(bit == '1' ? 1 : 0);
        return word.length;
    }

    public int code() {
        word.becomeWeights();
        return word.weightCount;
    }

    public int weight(int index) throws IndexOutOfBoundsException {
        return word.weights[weightIndex(index)];
    }

    public int setWeight(int index, int weight) throws IndexOutOfBoundsException, IllegalArgumentException {
        int at = weightIndex(index);
        refuseUnless(isWithin(weight, -MOST_WEIGHT, MOST_WEIGHT));
        int before = word.weights[at];
        word.weights[at] = weight;
        return before;
    }

    public int decode() throws NoSuchElementException {
        refuseWithoutWeights();
        return word.numberByPath();
    }

    public int decodeByTrying() throws NoSuchElementException {
        refuseWithoutWeights();
        return word.numberByTrying();
    }

    public long sum() throws NoSuchElementException {
        refuseWithoutWeights();
        return word.greatestSum();
    }

    // ---- figures

    public float share() throws NoSuchElementException {
        int all = net.messages.size();
        if (all == 0) {
            throw new NoSuchElementException("there are no messages");
        }
        return (float) net.countArrived() / (float) all;
    }

    public double meanSlots() throws NoSuchElementException {
        int arrived = net.countArrived();
        if (arrived == 0) {
            throw new NoSuchElementException("none has arrived");
        }
        return (double) net.sumOfSlots() / (double) arrived;
    }

    public boolean isSound() {
        return net.countArrived() == net.countTold() && net.noneArrivedTwice() && word.isDecodedAlike();
    }

    // ---- what several calls refuse

    private static boolean isWithin(int number, int least, int most) {
        return number >= least && number <= most;
    }

    private static void refuseUnless(boolean fine) {
        if (!fine) {
            throw new IllegalArgumentException("an argument is out of range");
        }
    }

    private void refuseUnlessTwo(int station, int goal) {
        stationOf(goal);
        if (station == goal) {
            throw new IllegalArgumentException("both stations are the same");
        }
    }

    private Station stationOf(int number) {
        if (number < 0 || number >= net.stations.size()) {
            throw new IndexOutOfBoundsException("there is no such station");
        }
        return net.stations.get(number);
    }

    private Message messageOf(int number) {
        if (number < 0 || number >= net.messages.size()) {
            throw new IndexOutOfBoundsException("there is no such message");
        }
        return net.messages.get(number);
    }

    private Ways waysOf(int station, int goal) {
        Ways ways = stationOf(station).ways;
        refuseUnlessTwo(station, goal);
        if (!ways.leadTo(goal)) {
            throw new NoSuchElementException("there is no such way");
        }
        return ways;
    }

    private Ear earThatUnderstood(int station) {
        Ear ear = stationOf(station).ear;
        if (!ear.hasUnderstood()) {
            throw new NoSuchElementException("it understood no frame");
        }
        return ear;
    }

    private int weightIndex(int index) {
        if (index < 0 || index >= word.weightCount || index >= word.weights.length) {
            throw new IndexOutOfBoundsException("there is no such weight");
        }
        return index;
    }

    private void refuseWithoutWeights() {
        if (word.weightCount == 0) {
            throw new NoSuchElementException("there are no weights");
        }
    }

    private static int nextSeed(int seed) {
        return 1103515245 * seed + 12345;
    }

    private static int randomOf(int seed) {
        return (seed >> 16) & 32767;
    }

    /** What is spoken, or waits in a queue to be spoken. */
    private static final class Frame {
        int kind;
        int from;
        int to;
        int origin;
        int goal;
        int number;
        int value;

        void fill(int newKind, int newOrigin, int newGoal, int newNumber, int newValue) {
            kind = newKind;
            origin = newOrigin;
            goal = newGoal;
            number = newNumber;
            value = newValue;
        }

        boolean isWish() {
            return kind == WISH;
        }

        int pack() {
            int head = (kind & 3) << 24 | (from & 7) << 21 | (to & 7) << 18;
            int rest = (origin & 7) << 15 | (goal & 7) << 12 | (number & 15) << 8;
            return head | rest | (value & 255);
        }

        void unpack(int bits) {
            fill((bits >> 24) & 3, (bits >> 15) & 7, (bits >> 12) & 7, (bits >> 8) & 15, bits & 255);
            from = (bits >> 21) & 7;
            to = (bits >> 18) & 7;
        }
    }

    private static final class Message {
        final int origin;
        final int goal;
        final int number;
        final int value;
        final int slotsAhead;
        int arrivalSlot;
        boolean lost;

        Message(int origin, int goal, int number, int value, int slotsAhead) {
            this.origin = origin;
            this.goal = goal;
            this.number = number;
            this.value = value;
            this.slotsAhead = slotsAhead;
        }

        // Slots are numbered from 1 on, so that 0 stands for none.
        boolean hasArrived() {
            return arrivalSlot > 0;
        }
    }

    /** The ways of one station; a frame tells stations in 3 bits, so that there are 8 rows. */
    private static final class Ways {
        private final int[] over = new int[8];
        private final int[] hops = new int[8];

        Ways() {
            Arrays.fill(over, NOBODY);
        }

        private boolean isRow(int goal) {
            return goal >= 0 && goal < over.length && goal < hops.length;
        }

        boolean leadTo(int goal) {
            return isRow(goal) && over[goal] != NOBODY;
        }

        int overWhom(int goal) {
            return isRow(goal) ? over[goal] : NOBODY;
        }

        int hopsTo(int goal) {
            return isRow(goal) ? hops[goal] : 0;
        }

        void set(int goal, int newOver, int newHops) {
            if (isRow(goal)) {
                over[goal] = newOver;
                hops[goal] = newHops;
            }
        }

        void dropThose(int gone) {
            for (int goal = 0; goal < over.length; goal++) {
                if (over[goal] == gone) {
                    over[goal] = NOBODY;
                }
            }
        }
    }

    /** For which frame a station wishes, and how often it did. */
    private static final class Wishing {
        Frame wanted;
        int forWanted;
        int lastSlot;
        int made;

        void turnTo(Frame frame) {
            if (wanted != frame) {
                wanted = frame;
                forWanted = 0;
            }
        }

        boolean isDue(int slot) {
            return forWanted == 0 || slot - lastSlot >= SLOTS_BETWEEN_WISHES;
        }

        boolean isSpent() {
            return forWanted >= WISHES_A_FRAME || made >= WISHES_A_STATION;
        }

        int nextNumber(int slot) {
            int number = made;
            made++;
            forWanted++;
            lastSlot = slot;
            return number;
        }
    }

    /** What a station did in the last slot. */
    private static final class Ear {
        final int[] samples = new int[SAMPLES];
        char deed = 'q';
        int understood;
        int mendedSamples;

        boolean hasHeard() {
            return deed == 'c' || deed == 'u';
        }

        boolean hasUnderstood() {
            return deed == 'u';
        }
    }

    private static final class Station {
        final int number;
        int place;
        int power;
        int seed;
        int pause;
        int failures;
        int sent;
        int spokenFrames;
        final ArrayList<Frame> frames = new ArrayList<Frame>();
        final ArrayList<Message> arrived = new ArrayList<Message>();
        final Ways ways = new Ways();
        final Wishing wishing = new Wishing();
        final Ear ear = new Ear();
        final int[] voice = new int[SAMPLES];
        // By kind and origin: a bit for each number.
        private final int[] taken = new int[4 * 8];
        final Frame answer = new Frame();
        boolean owesAnswer;
        Frame awaited;
        int awaitedSlot;

        Station(int number, int place, int power, int seed) {
            this.number = number;
            this.place = place;
            this.power = power;
            this.seed = seed;
        }

        boolean isSpeaking() {
            return ear.deed == 's';
        }

        int random() {
            seed = nextSeed(seed);
            return randomOf(seed);
        }

        /** Remembers that the frame is taken; tells whether this is the first time. */
        boolean takesFirst(Frame frame) {
            int row = (frame.kind & 3) * 8 + (frame.origin & 7);
            int bit = 1 << (frame.number & 15);
            if (row < 0 || row >= taken.length || (taken[row] & bit) != 0) {
                return false;
            }
            taken[row] |= bit;
            return true;
        }

        void putLast(int kind, int origin, int goal, int frameNumber, int value) {
            Frame frame = new Frame();
            frame.fill(kind, origin, goal, frameNumber, value);
            frames.add(frame);
        }

        void putWishFirst(int goal, int wishNumber) {
            Frame frame = new Frame();
            frame.fill(WISH, number, goal, wishNumber, 0);
            frames.add(0, frame);
        }

        void drop(Frame frame) {
            for (int i = 0; i < frames.size(); i++) {
                if (frames.get(i) == frame) {
                    frames.remove(i);
                    return;
                }
            }
        }

        void owe(Frame frame) {
            answer.fill(ANSWER, frame.origin, frame.goal, frame.number, frame.kind == WAY ? 1 : 0);
            answer.to = frame.from;
            owesAnswer = true;
        }

        Frame firstWithoutWay() {
            for (int i = 0; i < frames.size(); i++) {
                Frame frame = frames.get(i);
                if (!frame.isWish() && !ways.leadTo(frame.goal)) {
                    return frame;
                }
            }
            return null;
        }

        Frame firstToSpeak() {
            for (int i = 0; i < frames.size(); i++) {
                Frame frame = frames.get(i);
                if (frame.isWish() || ways.leadTo(frame.goal)) {
                    return frame;
                }
            }
            return null;
        }
    }

    /** The code and its best path; a state is the bit ahead times 2, plus the bit two ahead. */
    private static final class Trellis {
        private final int[] best = new int[4 * (WORD_BITS + TAIL_BITS + 1)];

        static int firstOut(int state, int bit) {
            return (bit ^ (state >> 1) ^ state) & 1;
        }

        static int secondOut(int state, int bit) {
            return (bit ^ state) & 1;
        }

        static int nextState(int state, int bit) {
            return (bit << 1 | state >> 1) & 3;
        }

        private static int signed(int weight, int bit) {
            return bit == 0 ? weight : -weight;
        }

        static int bitOf(long word, int length, int index) {
            return index < length ? (int) (word >> (length - 1 - index)) & 1 : 0;
        }

        static void codeInto(int[] coded, long word, int length) {
            int state = 0;
            for (int i = 0; i < length + TAIL_BITS && 2 * i + 1 < coded.length; i++) {
                int bit = bitOf(word, length, i);
                coded[2 * i] = firstOut(state, bit);
                coded[2 * i + 1] = secondOut(state, bit);
                state = nextState(state, bit);
            }
        }

        static int sumOf(int[] weights, long word, int length) {
            int sum = 0;
            int state = 0;
            for (int i = 0; i < length + TAIL_BITS && 2 * i + 1 < weights.length; i++) {
                int bit = bitOf(word, length, i);
                sum += signed(weights[2 * i], firstOut(state, bit));
                sum += signed(weights[2 * i + 1], secondOut(state, bit));
                state = nextState(state, bit);
            }
            return sum;
        }

        /** Sums are found from behind, so that the way forward can take 0 wherever both bits are as good. */
        void weigh(int[] weights, int length) {
            Arrays.fill(best, 0);
            if (length > WORD_BITS) {
                return;
            }
            for (int i = length + TAIL_BITS - 1; i >= 0; i--) {
                for (int state = 0; state < 4; state++) {
                    int sum = through(weights, i, state, 0);
                    int other = i < length ? through(weights, i, state, 1) : sum;
                    int at = 4 * i + state;
                    if (at >= 0 && at < best.length) {
                        best[at] = Math.max(sum, other);
                    }
                }
            }
        }

        /** The greatest sum of the weights that were weighed last. */
        int bestSum() {
            return bestAt(0, 0);
        }

        private int bestAt(int index, int state) {
            int at = 4 * index + state;
            return at >= 0 && at < best.length ? best[at] : 0;
        }

        /** The word of the weights that were weighed last. */
        long bestWord(int[] weights, int length) {
            long word = 0L;
            int state = 0;
            for (int i = 0; i < length; i++) {
                int bit = through(weights, i, state, 1) > through(weights, i, state, 0) ? 1 : 0;
                word = word << 1 | bit;
                state = nextState(state, bit);
            }
            return word;
        }

        private int through(int[] weights, int index, int state, int bit) {
            if (index < 0 || 2 * index + 1 >= weights.length) {
                return 0;
            }
            return signed(weights[2 * index], firstOut(state, bit))
                    + signed(weights[2 * index + 1], secondOut(state, bit))
                    + bestAt(index + 1, nextState(state, bit));
        }
    }

    /** Makes samples of frames, and frames of samples. */
    private static final class Codec {
        private final Trellis trellis = new Trellis();
        private final int[] coded = new int[SAMPLES];
        private final int[] weights = new int[SAMPLES];

        private static int checkOf(int frame) {
            int register = 65535;
            for (int i = FRAME_BITS - 1; i >= 0; i--) {
                int highest = (register >> 15) & 1;
                register = (register << 1) & 65535;
                if (highest != ((frame >> i) & 1)) {
                    register ^= 4129;
                }
            }
            return register;
        }

        private static long whitened(long bits) {
            int register = 127;
            long result = bits;
            for (int i = WORD_BITS - 1; i >= 0; i--) {
                int fresh = (register >> 6 ^ register >> 3) & 1;
                register = (register << 1) & 127 | fresh;
                result ^= (long) fresh << i;
            }
            return result;
        }

        /** Where the sample that is sent as the given one stands in the rows. */
        private static int inRows(int sent) {
            return sent % ROWS * COLUMNS + sent / ROWS;
        }

        void speak(int frame, int power, int[] samples) {
            long bits = (long) frame << CHECK_BITS | checkOf(frame);
            Trellis.codeInto(coded, whitened(bits), WORD_BITS);
            for (int i = 0; i < samples.length; i++) {
                int at = inRows(i);
                if (at >= 0 && at < coded.length) {
                    samples[i] = coded[at] == 0 ? power : -power;
                }
            }
        }

        void understand(Ear ear) {
            putIntoRows(ear.samples);
            trellis.weigh(weights, WORD_BITS);
            long heardWord = trellis.bestWord(weights, WORD_BITS);
            long bits = whitened(heardWord);
            int frame = (int) (bits >> CHECK_BITS);
            int check = (int) (bits & 65535L);
            if (check != checkOf(frame)) {
                ear.deed = 'c';
                return;
            }
            ear.deed = 'u';
            ear.understood = frame;
            ear.mendedSamples = countMended(heardWord);
        }

        private void putIntoRows(int[] samples) {
            for (int i = 0; i < samples.length; i++) {
                int at = inRows(i);
                if (at >= 0 && at < weights.length) {
                    weights[at] = samples[i];
                }
            }
        }

        private int countMended(long heardWord) {
            Trellis.codeInto(coded, heardWord, WORD_BITS);
            int count = 0;
            for (int i = 0; i < weights.length && i < coded.length; i++) {
                boolean positive = weights[i] > 0;
                if (weights[i] != 0 && positive != (coded[i] == 0)) {
                    count++;
                }
            }
            return count;
        }
    }

    /** What carries samples from the speakers to those that hear. */
    private static final class Air {
        int level;
        int echo;
        private int seed = 1;

        static int gainBetween(Station one, Station other) {
            return Math.max(0, 16 - Math.abs(one.place - other.place));
        }

        boolean reaches(ArrayList<Station> stations, Station hearer) {
            for (int i = 0; i < stations.size(); i++) {
                Station speaker = stations.get(i);
                if (speaker.isSpeaking() && gainBetween(speaker, hearer) > 0) {
                    return true;
                }
            }
            return false;
        }

        void carry(ArrayList<Station> stations, Station hearer) {
            int[] samples = hearer.ear.samples;
            Arrays.fill(samples, 0);
            for (int i = 0; i < stations.size(); i++) {
                Station speaker = stations.get(i);
                if (speaker.isSpeaking()) {
                    addVoice(samples, speaker.voice, gainBetween(speaker, hearer));
                }
            }
            blur(samples);
        }

        private static void addVoice(int[] samples, int[] voice, int gained) {
            for (int i = 0; i < samples.length && i < voice.length; i++) {
                samples[i] += voice[i] * gained;
            }
        }

        private void blur(int[] samples) {
            int ahead = 0;
            for (int i = 0; i < samples.length; i++) {
                int clean = samples[i];
                int blurred = clean + echo * ahead / 4 + noise();
                samples[i] = Math.max(-LOUDEST, Math.min(LOUDEST, blurred));
                ahead = clean;
            }
        }

        private int noise() {
            seed = nextSeed(seed);
            int span = 2 * level + 1;
            if (span < 1) {
                return 0;
            }
            return randomOf(seed) % span - level;
        }
    }

    /** The stations, their messages, and how slots pass. */
    private static final class Net {
        final ArrayList<Station> stations = new ArrayList<Station>();
        final ArrayList<Message> messages = new ArrayList<Message>();
        final Air air = new Air();
        int slots;
        private final Codec codec = new Codec();
        private final Frame taken = new Frame();
        private final int[] distance = new int[MOST_STATIONS];

        int putMessage(Station sender, int goal, int value) {
            int frameNumber = sender.sent;
            sender.sent++;
            sender.putLast(DATA, sender.number, goal, frameNumber, value);
            messages.add(new Message(sender.number, goal, frameNumber, value, slots));
            return messages.size() - 1;
        }

        private Message messageOfFrame(Frame frame) {
            for (int i = 0; i < messages.size(); i++) {
                Message message = messages.get(i);
                if (message.origin == frame.origin && message.number == frame.number) {
                    return message;
                }
            }
            return null;
        }

        void passSlot() {
            slots++;
            for (int i = 0; i < stations.size(); i++) {
                takeTurn(stations.get(i));
            }
            for (int i = 0; i < stations.size(); i++) {
                hear(stations.get(i));
            }
            for (int i = 0; i < stations.size(); i++) {
                take(stations.get(i));
            }
            for (int i = 0; i < stations.size(); i++) {
                missAnswer(stations.get(i));
            }
        }

        private void takeTurn(Station station) {
            station.ear.deed = 'q';
            wish(station);
            Frame frame = frameOfTurn(station);
            if (frame != null) {
                speak(station, frame);
            }
        }

        private void wish(Station station) {
            Frame frame = station.firstWithoutWay();
            if (frame == null) {
                return;
            }
            Wishing wishing = station.wishing;
            wishing.turnTo(frame);
            if (!wishing.isDue(slots)) {
                return;
            }
            if (wishing.isSpent()) {
                giveUp(station, frame);
            } else {
                station.putWishFirst(frame.goal, wishing.nextNumber(slots));
            }
        }

        /** What the station speaks in this turn, if it does. */
        private Frame frameOfTurn(Station station) {
            if (station.owesAnswer) {
                station.owesAnswer = false;
                return station.answer;
            }
            if (station.awaited != null) {
                return null;
            }
            if (station.pause > 0) {
                station.pause--;
                return null;
            }
            Frame frame = station.firstToSpeak();
            if (frame != null) {
                leaveOrAwait(station, frame);
            }
            return frame;
        }

        private void leaveOrAwait(Station station, Frame frame) {
            if (frame.isWish()) {
                frame.to = TO_ALL;
                station.drop(frame);
                return;
            }
            frame.to = station.ways.overWhom(frame.goal);
            station.awaited = frame;
            station.awaitedSlot = slots;
        }

        private void speak(Station station, Frame frame) {
            frame.from = station.number;
            codec.speak(frame.pack(), station.power, station.voice);
            station.ear.deed = 's';
            station.spokenFrames++;
        }

        private void giveUp(Station station, Frame frame) {
            station.drop(frame);
            Message message = frame.kind == DATA ? messageOfFrame(frame) : null;
            if (message != null && !message.hasArrived()) {
                message.lost = true;
            }
        }

        private void hear(Station station) {
            if (!station.isSpeaking() && air.reaches(stations, station)) {
                air.carry(stations, station);
                codec.understand(station.ear);
            }
        }

        private void take(Station station) {
            if (!station.ear.hasUnderstood()) {
                return;
            }
            taken.unpack(station.ear.understood);
            if (taken.to != station.number && taken.to != TO_ALL) {
                return;
            }
            switch (taken.kind) {
                case DATA:
                    takeData(station);
                    break;
                case ANSWER:
                    takeAnswer(station);
                    break;
                case WISH:
                    takeWish(station);
                    break;
                default:
                    takeWay(station);
                    break;
            }
        }

        private void takeData(Station station) {
            station.owe(taken);
            if (!station.takesFirst(taken)) {
                return;
            }
            if (taken.goal == station.number) {
                arrive(station);
            } else {
                station.putLast(DATA, taken.origin, taken.goal, taken.number, taken.value);
            }
        }

        // A frame that noise has made up may tell of a message that nobody sent there.
        private void arrive(Station station) {
            Message message = messageOfFrame(taken);
            if (message == null || message.goal != station.number || message.hasArrived()) {
                return;
            }
            message.arrivalSlot = slots;
            message.lost = false;
            station.arrived.add(message);
        }

        private void takeWay(Station station) {
            station.owe(taken);
            if (!station.takesFirst(taken)) {
                return;
            }
            station.ways.set(taken.origin, taken.from, taken.value + 1);
            if (taken.goal != station.number) {
                station.putLast(WAY, taken.origin, taken.goal, taken.number, taken.value + 1);
            }
        }

        private void takeAnswer(Station station) {
            Frame awaited = station.awaited;
            if (awaited == null || station.awaitedSlot != slots - 1) {
                return;
            }
            boolean sameKind = awaited.kind == DATA && taken.value == 0 || awaited.kind == WAY && taken.value == 1;
            boolean same = awaited.origin == taken.origin && awaited.number == taken.number;
            if (sameKind && same && awaited.to == taken.from) {
                station.drop(awaited);
                station.awaited = null;
                station.failures = 0;
            }
        }

        private void takeWish(Station station) {
            if (taken.origin == station.number || !station.takesFirst(taken)) {
                return;
            }
            int hops = taken.value + 1;
            if (!station.ways.leadTo(taken.origin) || station.ways.hopsTo(taken.origin) > hops) {
                station.ways.set(taken.origin, taken.from, hops);
            }
            if (taken.goal == station.number) {
                station.putLast(WAY, station.number, taken.origin, taken.number, 0);
                return;
            }
            station.putLast(WISH, taken.origin, taken.goal, taken.number, hops);
            if (station.pause == 0) {
                station.pause = station.random() % 4;
            }
        }

        private void missAnswer(Station station) {
            Frame awaited = station.awaited;
            if (awaited == null || station.awaitedSlot != slots - 1) {
                return;
            }
            station.awaited = null;
            station.failures++;
            if (station.failures >= TRIES_TO_GIVE_UP) {
                station.failures = 0;
                giveUp(station, awaited);
                station.ways.dropThose(awaited.to);
            } else {
                station.pause = station.random() & ((1 << station.failures) - 1);
            }
        }

        int flood(int start, int goal) {
            if (start < 0 || start >= distance.length || goal < 0 || goal >= distance.length) {
                return NOBODY;
            }
            Arrays.fill(distance, NOBODY);
            distance[start] = 0;
            for (int hops = 0; hops < MOST_STATIONS; hops++) {
                for (int i = 0; i < stations.size() && i < distance.length; i++) {
                    if (distance[i] == hops) {
                        spreadFrom(stations.get(i), hops + 1);
                    }
                }
            }
            return distance[goal];
        }

        private void spreadFrom(Station station, int hops) {
            for (int i = 0; i < stations.size() && i < distance.length; i++) {
                if (distance[i] == NOBODY && Air.gainBetween(station, stations.get(i)) > 0) {
                    distance[i] = hops;
                }
            }
        }

        int countArrived() {
            int count = 0;
            for (int i = 0; i < messages.size(); i++) {
                if (messages.get(i).hasArrived()) {
                    count++;
                }
            }
            return count;
        }

        int countTold() {
            int count = 0;
            for (int i = 0; i < stations.size(); i++) {
                count += stations.get(i).arrived.size();
            }
            return count;
        }

        int sumOfSlots() {
            int sum = 0;
            for (int i = 0; i < messages.size(); i++) {
                Message message = messages.get(i);
                if (message.hasArrived()) {
                    sum += message.arrivalSlot - message.slotsAhead;
                }
            }
            return sum;
        }

        boolean noneArrivedTwice() {
            for (int i = 0; i < stations.size(); i++) {
                if (hasTwice(stations.get(i).arrived)) {
                    return false;
                }
            }
            return true;
        }

        private static boolean hasTwice(ArrayList<Message> arrived) {
            for (int i = 0; i < arrived.size(); i++) {
                for (int j = 0; j < i; j++) {
                    if (arrived.get(i) == arrived.get(j)) {
                        return true;
                    }
                }
            }
            return false;
        }
    }

    /** The typed word, and the weights of the coded one. */
    private static final class Word {
        private static final int LOUD = 8;
        final int[] weights = new int[2 * (MOST_TYPED + TAIL_BITS)];
        int weightCount;
        int length;
        private int bits;
        private final Trellis trellis = new Trellis();

        void add(int bit) {
            bits = bits << 1 | bit;
            length++;
        }

        void becomeWeights() {
            Trellis.codeInto(weights, bits, length);
            weightCount = 2 * (length + TAIL_BITS);
            for (int i = 0; i < weightCount && i < weights.length; i++) {
                weights[i] = weights[i] == 0 ? LOUD : -LOUD;
            }
            bits = 0;
            length = 0;
        }

        private int codedLength() {
            return weightCount / 2 - TAIL_BITS;
        }

        int numberByPath() {
            int coded = codedLength();
            trellis.weigh(weights, coded);
            return (1 << coded) + (int) trellis.bestWord(weights, coded);
        }

        int numberByTrying() {
            int coded = codedLength();
            int best = 0;
            int bestSum = Trellis.sumOf(weights, 0L, coded);
            for (int tried = 1; tried < 1 << coded && tried < 1 << MOST_TYPED; tried++) {
                int sum = Trellis.sumOf(weights, tried, coded);
                if (sum > bestSum) {
                    bestSum = sum;
                    best = tried;
                }
            }
            return (1 << coded) + best;
        }

        long greatestSum() {
            trellis.weigh(weights, codedLength());
            return trellis.bestSum();
        }

        boolean isDecodedAlike() {
            return weightCount == 0 || numberByPath() == numberByTrying();
        }
    }
}
