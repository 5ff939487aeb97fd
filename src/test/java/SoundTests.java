/**
 * The sentences of 'Terms' under Bits, Code, Samples and Air that name a boundary: each has a test of its own, called
 * by its words. The long texts of bits and signs are worked out apart from these tests, from the document.
 */
public final class SoundTests {
    // The whitener's bits, which do not depend on the frame.
    private static final String WHITE = "000011101111001011001001000000100010011000";
    // The air's first random numbers, from the seed 1.
    private static final int[] RANDOM = {16838, 5758, 10113, 17515, 31051, 5627, 23010, 7419, 16212, 4086};

    public static void main(String[] args) {
        leastAndGreatestParts();
        toAll();
        checkKeepsSixteenBits();
        whitenerKeepsSevenBits();
        bitsAheadOfTheFirst();
        twoBitsBehind();
        wantedSigns();
        everyLength();
        greatestSum();
        greatestOfWeights();
        firstOfSeveral();
        rowsAndColumns();
        signOfASample();
        gainIsAtLeastNone();
        hearsWithAGainAboveNone();
        speakerHearsNothing();
        sumOfAllSpeakers();
        quarterCutTowardsNone();
        noneAheadOfTheFirstSample();
        echoOfWhatIsNotHeld();
        heldAtTheBounds();
        heldWithNoise();
        seedGoesRound();
        noiseBounds();
        drawnForEachHeardSample();
        drawnInQuietAir();
        wrongCheck();
        firstOfTwoFrames();
        Due.end("sound");
    }

    private static void leastAndGreatestParts() {
        Due.by("A frame has 26 bits, those of greater worth first");
        Radiohearth x = Frames.friends(0, 5);
        for (int i = 1; i < 16; i++) {
            x.send(0, 1, 255);
        }
        x.slot(20);
        x.slot(9);
        Due.is("number 15, value 255", x.frame(1), 0b00_000_001_000_001_1111_11111111);
        Radiohearth y = Frames.at(63, 63, 63, 63, 0, 5);
        y.send(5, 4, 0);
        y.slot(1);
        Due.is("wish of 5", y.frame(4), 0b10_101_111_101_100_0000_00000000);
        y.slot(1);
        Due.is("way of 4", y.frame(5), 0b11_100_101_100_101_0000_00000000);
        y.slot(1);
        Due.is("answer of 5", y.frame(4), 0b01_101_100_100_101_0000_00000001);
        y.slot(1);
        Due.is("value 0", y.frame(4), 0b00_101_100_101_100_0000_00000000);
    }

    private static void toAll() {
        Due.by("to whom in 3 (7 for all)");
        Radiohearth x = Frames.at(0, 5, 10);
        x.send(0, 1, 1);
        x.slot(1);
        Due.is("to", x.frame(1) >> 18 & 7, 7);
        Due.is("all take it", x.queue(1) + x.queue(2), 2);
    }

    /** The 42 bits of the frame that a station hears from a lone speaker, still whitened. */
    private static String heardWord(Radiohearth x, int station) {
        int[] coded = new int[88];
        for (int i = 0; i < 88; i++) {
            coded[i % 8 * 11 + i / 8] = x.sample(station, i) > 0 ? 0 : 1;
        }
        int[] word = new int[44];
        for (int i = 0; i < 42; i++) {
            word[i + 2] = coded[2 * i + 1] ^ word[i];
        }
        StringBuilder text = new StringBuilder();
        for (int i = 0; i < 42; i++) {
            text.append(word[i + 2]);
        }
        return text.toString();
    }

    private static String unlike(String one, String other) {
        StringBuilder text = new StringBuilder();
        for (int i = 0; i < one.length(); i++) {
            text.append(one.charAt(i) == other.charAt(i) ? 0 : 1);
        }
        return text.toString();
    }

    private static void checkKeepsSixteenBits() {
        Due.by("a register begins as 65535; .. its lowest 16 bits are kept");
        Radiohearth x = Frames.at(0, 5);
        x.send(0, 1, 1);
        x.slot(1);
        String bits = unlike(heardWord(x, 1), WHITE);
        Due.is("frame", bits.substring(0, 26), "10000111000001000000000000");
        Due.is("check", bits.substring(26), "1101101000001010");
        Radiohearth y = Frames.friends(0, 5);
        for (int i = 1; i < 16; i++) {
            y.send(0, 1, 255);
        }
        y.slot(20);
        y.slot(9);
        String last = unlike(heardWord(y, 1), WHITE);
        Due.is("frame", last.substring(0, 26), "00000001000001111111111111");
        Due.is("check", last.substring(26), "1101001101101110");
    }

    private static void whitenerKeepsSevenBits() {
        Due.by("a register of 7 bits begins as 127; .. its lowest 7 bits are kept");
        Radiohearth x = Frames.at(63, 63, 63, 63, 0, 5);
        x.send(5, 4, 1);
        x.slot(1);
        Due.is("whitener", unlike(heardWord(x, 4), "10101111101100000000000000" + "0001110011010001"), WHITE);
    }

    private static Radiohearth coded(String word) {
        Radiohearth x = new Radiohearth();
        for (char bit : word.toCharArray()) {
            x.type(bit);
        }
        x.code();
        return x;
    }

    private static String signs(Radiohearth x, int weights) {
        StringBuilder text = new StringBuilder();
        for (int i = 0; i < weights; i++) {
            text.append(x.weight(i) == 8 ? '0' : x.weight(i) == -8 ? '1' : '?');
        }
        return text.toString();
    }

    private static void bitsAheadOfTheFirst() {
        Due.by("ahead of the first bit, there are bits 0");
        Due.is("1", signs(coded("1"), 2), "11");
        Due.is("0", signs(coded("0"), 2), "00");
        Due.is("11", signs(coded("11"), 4), "1101");
        Due.is("111", signs(coded("111"), 6), "110110");
        Radiohearth x = coded("11");
        x.type('1');
        x.code();
        Due.is("not those of the word before", signs(x, 2), "11");
    }

    private static void twoBitsBehind() {
        Due.by("A word of bits is coded, with two bits 0 behind it");
        Due.is("nothing", signs(coded(""), 4), "0000");
        Due.is("1", signs(coded("1"), 6), "111011");
        Due.is("0", signs(coded("0"), 6), "000000");
        Due.is("10 bits", signs(coded("1111111111"), 24), "1101" + "1010101010101010" + "0111");
        Due.is("the last of 10 bits", signs(coded("0000000001"), 24), "000000000000000000" + "111011");
    }

    private static void wantedSigns() {
        Due.by("A bit 0 is wanted as a weight greater than 0, a bit 1 as one less than 0");
        for (int weight : new int[] {1, 99}) {
            Radiohearth x = coded("1");
            int[] zero = {weight, 0, 0, 0, 0, 0};
            int[] one = {-weight, 0, 0, 0, 0, 0};
            int[] behind = {0, 0, 0, 0, 0, -weight};
            set(x, zero);
            dueWord(x, "0", weight);
            set(x, one);
            dueWord(x, "1", weight);
            set(x, behind);
            dueWord(x, "1", weight);
        }
    }

    private static void set(Radiohearth x, int[] weights) {
        for (int i = 0; i < weights.length; i++) {
            x.setWeight(i, weights[i]);
        }
    }

    private static void dueWord(Radiohearth x, String word, long sum) {
        int number = Integer.parseInt("1" + word, 2);
        Due.is("decode", x.decode(), number);
        Due.is("decodeByTrying", x.decodeByTrying(), number);
        Due.is("sum", x.sum(), sum);
        Due.is("isSound", x.isSound(), true);
    }

    private static String word(int bits, int length) {
        StringBuilder text = new StringBuilder();
        for (int i = length - 1; i >= 0; i--) {
            text.append(bits >> i & 1);
        }
        return text.toString();
    }

    private static void everyLength() {
        Due.by("of the length of the weights divided by 2, less 2");
        for (int length = 0; length <= 10; length++) {
            for (int bits = 0; bits < 1 << length; bits++) {
                dueWord(coded(word(bits, length)), word(bits, length), 8L * (2 * length + 4));
            }
        }
    }

    // Coded, 1 is 11 10 11, and 0 is 00 00 00: what all weights tell together counts, not most of them.
    private static void greatestSum() {
        Due.by("the sum of all weights, each with its sign for a bit 0 of the coded word, .. is greatest");
        Radiohearth x = coded("1");
        set(x, new int[] {1, 1, 1, 0, 1, -5});
        dueWord(x, "1", 1);
        set(x, new int[] {1, 1, 1, 0, 1, -3});
        dueWord(x, "0", 1);
        set(x, new int[] {-2, -2, -2, 3, 3, 3});
        dueWord(x, "0", 3);
        set(x, new int[] {-2, -2, -2, 3, 1, 1});
        dueWord(x, "1", 7);
    }

    private static void greatestOfWeights() {
        Due.by("weights from -99 to 99, for 10 bits");
        for (int weight : new int[] {-99, 99}) {
            Radiohearth x = coded("0000000000");
            for (int i = 0; i < 24; i++) {
                x.setWeight(i, weight);
            }
            Due.is("both ways", x.decode(), x.decodeByTrying());
            Due.is("sum", x.sum() == 24 * 99, weight == 99);
        }
        String most = "1110101110";
        Radiohearth y = coded(most);
        for (int i = 0; i < 24; i++) {
            y.setWeight(i, y.weight(i) > 0 ? 99 : -99);
        }
        dueWord(y, most, 24 * 99);
    }

    private static final String[] TWO_BITS = {"00000000", "00111011", "11101100", "11010111"};

    private static void firstOfSeveral() {
        Due.by("of several, to the one that comes first, where 0 comes ahead of 1 at the first bit that differs");
        for (int length = 0; length <= 10; length++) {
            Radiohearth x = coded(word((1 << length) - 1, length));
            set(x, new int[2 * length + 4]);
            dueWord(x, word(0, length), 0);
        }
        int[] weights = new int[8];
        for (int run = 0; run < 6561; run++) {
            for (int i = 0, rest = run; i < 8; i++, rest /= 3) {
                weights[i] = rest % 3 - 1;
            }
            int best = 0;
            for (int bits = 1; bits < 4; bits++) {
                best = sumOf(weights, TWO_BITS[bits]) > sumOf(weights, TWO_BITS[best]) ? bits : best;
            }
            Radiohearth x = coded("11");
            set(x, weights);
            dueWord(x, word(best, 2), sumOf(weights, TWO_BITS[best]));
        }
    }

    private static int sumOf(int[] weights, String coded) {
        int sum = 0;
        for (int i = 0; i < weights.length; i++) {
            sum += coded.charAt(i) == '0' ? weights[i] : -weights[i];
        }
        return sum;
    }

    private static void dueSigns(Radiohearth x, int station, String signs, int loud) {
        for (int i = 0; i < 88; i++) {
            Due.is("sample " + i, x.sample(station, i), signs.charAt(i) == '+' ? loud : -loud);
        }
    }

    private static final String WISH_FOR_1 = "-+-+---+--++-++---+---+-+--+-++---+--+---++-+-+-"
            + "+-+--+-++--------++------------+-++++--+";

    private static void rowsAndColumns() {
        Due.by("written into 8 rows of 11, one row after the other, and sent by columns");
        Radiohearth x = Frames.at(0, 15);
        x.setPower(0, 1);
        x.send(0, 1, 1);
        x.slot(1);
        dueSigns(x, 1, WISH_FOR_1, 1);
        Due.is("that is the frame", Frames.spread(Frames.wish(0, 0, 1, 0, 0)), WISH_FOR_1);
    }

    private static void signOfASample() {
        Due.by("A sample is the power of the speaker for a bit 0, and minus it for a bit 1");
        for (int power = 1; power <= 4; power++) {
            Radiohearth x = Frames.at(0, 15);
            x.setPower(0, power);
            x.send(0, 1, 1);
            x.slot(1);
            dueSigns(x, 1, WISH_FOR_1, power);
        }
    }

    private static void gainIsAtLeastNone() {
        Due.by("a gain of 16 less the difference of both places, without sign, but at least 0");
        for (int place = 0; place <= 63; place++) {
            Radiohearth x = Frames.at(0, place, 63);
            Due.is("gain over " + place, x.gain(0, 1), place < 16 ? 16 - place : 0);
            Due.is("gain back over " + place, x.gain(1, 0), place < 16 ? 16 - place : 0);
            Due.is("gain from 63 to " + place, x.gain(2, 1), place > 47 ? place - 47 : 0);
        }
    }

    private static void hearsWithAGainAboveNone() {
        Due.by("hears, if some speaker comes to it with a gain greater than 0");
        Radiohearth x = Frames.at(20, 35, 36, 5, 4);
        x.send(0, 1, 1);
        x.slot(1);
        Due.is("gains 1, 0, 1, 0", Frames.deeds(x), "suquq");
        Due.is("sample", Math.abs(x.sample(3, 87)), 2);
        Due.thrown("sample of one out of reach", Due.NONE, () -> x.sample(2, 0));
        x.slot(20);
        Due.is("arrived with a gain of 1", x.fate(0), 'a');
    }

    private static void speakerHearsNothing() {
        Due.by("A station that does not speak in a slot hears");
        Radiohearth x = Frames.at(0, 0);
        x.send(0, 1, 1);
        x.send(1, 0, 1);
        x.slot(1);
        Due.is("both speak", Frames.deeds(x), "ss");
        Due.thrown("sample of a speaker", Due.NONE, () -> x.sample(0, 0));
        Due.thrown("frame of a speaker", Due.NONE, () -> x.frame(1));
        Due.is("nothing taken", x.queue(0) + x.queue(1), 2);
    }

    private static final String WISH_OF_0 = "-+-+---+--++-++-------+-+-++-+-+--+--+---+--+---"
            + "+-+--++++-+--+++-+---++---+--++--++++-+-";
    private static final String WISH_OF_1 = "-+++-----+++--++-++--+--+--+------+------+--+---"
            + "+-+-----+-+---+-++--+++++++-+++-+-++-++-";

    /** The stations 0 and 1 wish for the station 2 at once. */
    private static Radiohearth two(int power, int place, int otherPower, int otherPlace, int echo, int noise) {
        Radiohearth x = new Radiohearth();
        x.addStation(place, power, 1);
        x.addStation(otherPlace, otherPower, 1);
        x.addStation(0, 1, 1);
        x.setEcho(echo);
        x.setNoise(noise);
        x.send(0, 2, 1);
        x.send(1, 2, 1);
        x.slot(1);
        return x;
    }

    private static int clean(int loud, int otherLoud, int index) {
        return loud * Frames.sign(WISH_OF_0, index) + otherLoud * Frames.sign(WISH_OF_1, index);
    }

    private static void sumOfAllSpeakers() {
        Due.by("the sum of the samples of all speakers, each times its gain");
        Radiohearth x = two(1, 15, 4, 8, 0, 0);
        Radiohearth y = two(3, 16, 2, 6, 0, 0);
        for (int i = 0; i < 88; i++) {
            Due.is("sample " + i, x.sample(2, i), clean(1, 32, i));
            Due.is("sample " + i + " with one out of reach", y.sample(2, i), clean(0, 20, i));
        }
    }

    private static void quarterCutTowardsNone() {
        Due.by("a quarter, cut towards 0, of the echo times the clean sample ahead");
        int[] quarterOf7 = {-5, -3, -1, 0, 1, 3, 5};
        int[] quarterOf1 = {0, 0, 0, 0, 0, 0, 0};
        for (int echo = -3; echo <= 3; echo++) {
            dueEcho(echo, 9, 7, quarterOf7[echo + 3]);
            dueEcho(echo, 15, 1, quarterOf1[echo + 3]);
        }
    }

    private static void dueEcho(int echo, int place, int loud, int quarter) {
        Radiohearth x = Frames.at(0, place);
        x.setPower(0, 1);
        x.setEcho(echo);
        x.send(0, 1, 1);
        x.slot(1);
        for (int i = 1; i < 88; i++) {
            int due = loud * Frames.sign(WISH_FOR_1, i) + quarter * Frames.sign(WISH_FOR_1, i - 1);
            Due.is("sample " + i + " with the echo " + echo, x.sample(1, i), due);
        }
    }

    private static void noneAheadOfTheFirstSample() {
        Due.by("or times 0 ahead of the first one");
        Radiohearth x = Frames.at(0, 0);
        x.setEcho(3);
        for (int slot = 1; slot <= 5; slot++) {
            x.slot(1);
            x.send(0, 1, 1);
            x.slot(1);
            int hearer = x.heard(0) == 's' ? 1 : 0;
            Due.is("first sample in slot " + 2 * slot, Math.abs(x.sample(hearer, 0)), 32);
        }
    }

    private static void echoOfWhatIsNotHeld() {
        Due.by("of the echo times the clean sample ahead");
        for (int echo : new int[] {-3, 3}) {
            Radiohearth x = two(4, 0, 4, 0, echo, 0);
            for (int i = 1; i < 88; i++) {
                int due = clean(64, 64, i) + echo * clean(64, 64, i - 1) / 4;
                Due.is("sample " + i, x.sample(2, i), Math.max(-127, Math.min(127, due)));
            }
        }
    }

    private static void heldAtTheBounds() {
        Due.by("it is held from -127 to 127");
        dueHeld(1, 1, 127, 127);
        dueHeld(1, 0, 128, 127);
        dueHeld(2, 2, 140, 127);
        dueHeld(1, 2, 126, 126);
    }

    /** Speakers of power 4 and 3 at the place of the hearer, and a third one, all with their first sample -1. */
    private static void dueHeld(int power, int place, int clean, int held) {
        Radiohearth x = new Radiohearth();
        x.addStation(0, 1, 1);
        x.addStation(0, 4, 1);
        x.addStation(0, 3, 1);
        x.addStation(place, power, 1);
        for (int i = 1; i < 4; i++) {
            x.send(i, 0, 1);
        }
        x.slot(1);
        String[] signs = new String[4];
        for (int i = 1; i < 4; i++) {
            signs[i] = Frames.spread(Frames.wish(i, i, 0, 0, 0));
        }
        for (int i = 0; i < 88; i++) {
            int sum = 64 * Frames.sign(signs[1], i) + 48 * Frames.sign(signs[2], i)
                    + power * (16 - place) * Frames.sign(signs[3], i);
            int due = Math.abs(sum) == clean ? held * Integer.signum(sum) : sum;
            Due.is("sample " + i + " of " + clean, x.sample(0, i), due);
        }
        Due.is("the first one", x.sample(0, 0), -held);
    }

    private static int noise(int draw, int level) {
        int seed = 1;
        for (int i = 0; i <= draw; i++) {
            seed = 1103515245 * seed + 12345;
        }
        return (seed >> 16 & 32767) % (2 * level + 1) - level;
    }

    private static void heldWithNoise() {
        Due.by("the sum of the clean sample, .. and of the noise; it is held");
        Radiohearth x = two(4, 0, 4, 0, 2, 60);
        int held = 0;
        for (int i = 0; i < 88; i++) {
            int echo = i == 0 ? 0 : clean(64, 64, i - 1) / 2;
            int due = Math.max(-127, Math.min(127, clean(64, 64, i) + echo + noise(i, 60)));
            held += Math.abs(due) == 127 ? 1 : 0;
            Due.is("sample " + i, x.sample(2, i), due);
        }
        Due.is("some are held, some are not", held > 10 && held < 80, true);
    }

    private static void seedGoesRound() {
        Due.by("the seed of the air, 1 at first, .. going round as ints do; .. shifted to the right by 16 bits");
        Radiohearth x = Frames.at(0, 15);
        x.setPower(0, 1);
        x.setNoise(50);
        x.send(0, 1, 1);
        x.slot(1);
        for (int i = 0; i < RANDOM.length; i++) {
            Due.is("sample " + i, x.sample(1, i), Frames.sign(WISH_FOR_1, i) + RANDOM[i] % 101 - 50);
        }
        for (int i = 0; i < 88; i++) {
            Due.is("sample " + i, x.sample(1, i), Frames.sign(WISH_FOR_1, i) + noise(i, 50));
        }
    }

    private static void noiseBounds() {
        Due.by("modulo 2 times the level plus 1, less the level");
        for (int level : new int[] {0, 1, 99}) {
            Radiohearth x = Frames.at(0, 15);
            x.setPower(0, 1);
            x.setNoise(level);
            x.send(0, 1, 1);
            x.slot(1);
            int least = 0;
            int most = 0;
            for (int i = 0; i < 88; i++) {
                int noise = x.sample(1, i) - Frames.sign(WISH_FOR_1, i);
                Due.is("noise " + i + " of " + level, noise, noise(i, level));
                least = Math.min(least, noise);
                most = Math.max(most, noise);
            }
            boolean wide = level < 2 ? least == -level && most == level : least < -90 && most > 90;
            Due.is("from " + least + " to " + most, wide, true);
        }
    }

    // The station 1 speaks, 3 is out of reach: neither draws.
    private static void drawnForEachHeardSample() {
        Due.by("this is done for each sample that is heard, stations by rising numbers, samples in their order");
        Radiohearth x = Frames.at(15, 0, 15, 40, 10);
        x.setPower(1, 1);
        x.setNoise(9);
        x.send(1, 0, 1);
        x.slot(1);
        String signs = Frames.spread(Frames.wish(1, 1, 0, 0, 0));
        int[] hearers = {0, 2, 4};
        int[] gains = {1, 1, 6};
        for (int k = 0; k < 3; k++) {
            for (int i = 0; i < 88; i++) {
                int due = gains[k] * Frames.sign(signs, i) + noise(88 * k + i, 9);
                Due.is("sample " + i + " of " + hearers[k], x.sample(hearers[k], i), due);
            }
        }
    }

    private static void drawnInQuietAir() {
        Due.by("for each sample that is heard, at the level 0 too");
        Radiohearth x = Frames.at(0, 15);
        x.setPower(0, 1);
        x.send(0, 1, 1);
        x.slot(2);
        x.setNoise(20);
        x.slot(1);
        String answer = Frames.spread(Frames.frame(Frames.ANSWER, 0, 1, 1, 0, 0, 1));
        for (int i = 0; i < 88; i++) {
            Due.is("sample " + i, x.sample(1, i), Frames.sign(answer, i) + noise(176 + i, 20));
        }
    }

    private static void wrongCheck() {
        Due.by("the frame is understood if its check is right");
        Radiohearth x = Frames.at(0, 15);
        x.setPower(0, 1);
        x.setNoise(99);
        x.send(0, 1, 1);
        x.slot(1);
        Due.is("one in noise", Frames.deeds(x), "sc");
        Due.is("heard all the same", x.sample(1, 0), noise(0, 99) - 1);
        Due.thrown("no frame", Due.NONE, () -> x.frame(1));
        Due.thrown("nothing mended", Due.NONE, () -> x.mended(1));
        Due.is("nothing taken", x.queue(1), 0);
        Due.thrown("no way", Due.NONE, () -> x.wayOver(1, 0));
    }

    // Both words fit as well; they differ first where the bit of 0 is whitened to 1, and that of 1 to 0.
    private static void firstOfTwoFrames() {
        Due.by("of several, to the one that comes first; what is heard is decoded");
        Radiohearth x = two(4, 0, 4, 0, 0, 0);
        Due.is("two at once", Frames.deeds(x), "ssu");
        Due.is("frame", x.frame(2), Frames.wish(1, 1, 2, 0, 0));
        Due.is("samples that are 0 are not mended", x.mended(2), 0);
    }
}
