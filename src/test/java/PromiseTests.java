import java.util.function.Function;

/** Each promise with ordinary inputs, edges and wrong inputs; the due answers are worked out from the document. */
public final class PromiseTests {
    public static void main(String[] args) {
        newObject();
        addStation();
        moveAndPower();
        noiseAndEchoLevels();
        gain();
        send();
        slotLimits();
        twoStationsTalk();
        threeStationsPassOn();
        missedAnswers();
        lostArrivesAllTheSame();
        wishesAndGivingUp();
        wishesCountAnew();
        collisions();
        ways();
        flood();
        samplesOfAFrame();
        echoAndBounds();
        noiseDraws();
        mended();
        typeAndCode();
        weights();
        decoding();
        figures();
        nothingChanges();
        farNumbers();
        Due.end("promises");
    }

    private static void newObject() {
        Due.by("promise 1");
        Radiohearth x = new Radiohearth();
        Due.thrown("arrivals(0)", Due.OUT, () -> x.arrivals(0));
        Due.thrown("fate(0)", Due.OUT, () -> x.fate(0));
        Due.thrown("share()", Due.NONE, () -> x.share());
        Due.thrown("meanSlots()", Due.NONE, () -> x.meanSlots());
        Due.thrown("weight(0)", Due.OUT, () -> x.weight(0));
        Due.thrown("decode()", Due.NONE, () -> x.decode());
        Due.thrown("decodeByTrying()", Due.NONE, () -> x.decodeByTrying());
        Due.thrown("sum()", Due.NONE, () -> x.sum());
        Due.is("isSound()", x.isSound(), true);
        Due.is("setNoise(0)", x.setNoise(0), 0);
        Due.is("setEcho(0)", x.setEcho(0), 0);
        Due.is("slot(1)", x.slot(1), 1);
        Due.is("code()", x.code(), 4);
        Due.is("type", x.type('1'), 1);
    }

    private static void addStation() {
        Due.by("promise 2");
        Radiohearth x = new Radiohearth();
        Due.thrown("place -1", Due.BAD, () -> x.addStation(-1, 1, 1));
        Due.thrown("place 64", Due.BAD, () -> x.addStation(64, 1, 1));
        Due.thrown("power 0", Due.BAD, () -> x.addStation(0, 0, 1));
        Due.thrown("power 5", Due.BAD, () -> x.addStation(0, 5, 1));
        Due.thrown("seed 0", Due.BAD, () -> x.addStation(0, 1, 0));
        Due.thrown("seed 1000", Due.BAD, () -> x.addStation(0, 1, 1000));
        Due.thrown("gain", Due.OUT, () -> x.gain(0, 0));
        Due.is("first", x.addStation(0, 1, 1), 0);
        Due.is("second", x.addStation(63, 4, 999), 1);
        Due.is("same place", x.addStation(63, 4, 999), 2);
        x.addStation(1, 1, 1);
        x.addStation(2, 1, 1);
        Due.is("sixth", x.addStation(3, 1, 1), 5);
        Due.thrown("seventh", Due.FULL, () -> x.addStation(4, 1, 1));
        Due.thrown("seventh, and wrong", Due.BAD, () -> x.addStation(64, 1, 1));
        Due.is("deed", x.heard(5), 'q');
        Due.is("frames", x.queue(5), 0);
        Due.is("wait", x.waitOf(5), 0);
        Due.is("tries", x.tries(5), 0);
        Due.is("wishes", x.wishes(5), 0);
        Due.is("spoken", x.spoken(5), 0);
        Due.is("arrivals", x.arrivals(5), 0);
    }

    private static void moveAndPower() {
        Due.by("promises 3, 4");
        Radiohearth x = Frames.at(10, 20);
        Due.is("move", x.move(0, 63), 10);
        Due.is("move back", x.move(0, 0), 63);
        Due.is("no move", x.move(0, 0), 0);
        Due.is("the other", x.move(1, 21), 20);
        Due.thrown("move(2, 0)", Due.OUT, () -> x.move(2, 0));
        Due.thrown("move(-1, 64)", Due.OUT, () -> x.move(-1, 64));
        Due.thrown("move(0, 64)", Due.BAD, () -> x.move(0, 64));
        Due.thrown("move(0, -1)", Due.BAD, () -> x.move(0, -1));
        Due.is("gain", x.gain(0, 1), 0);
        Due.is("setPower", x.setPower(0, 4), 2);
        Due.is("setPower", x.setPower(0, 1), 4);
        Due.thrown("setPower(2, 1)", Due.OUT, () -> x.setPower(2, 1));
        Due.thrown("setPower(-1, 0)", Due.OUT, () -> x.setPower(-1, 0));
        Due.thrown("setPower(1, 0)", Due.BAD, () -> x.setPower(1, 0));
        Due.thrown("setPower(1, 5)", Due.BAD, () -> x.setPower(1, 5));
        Due.is("setPower", x.setPower(1, 3), 2);
    }

    private static void noiseAndEchoLevels() {
        Due.by("promises 5, 6");
        Radiohearth x = new Radiohearth();
        Due.is("setNoise(99)", x.setNoise(99), 0);
        Due.thrown("setNoise(100)", Due.BAD, () -> x.setNoise(100));
        Due.thrown("setNoise(-1)", Due.BAD, () -> x.setNoise(-1));
        Due.is("setNoise(0)", x.setNoise(0), 99);
        Due.is("setEcho(-3)", x.setEcho(-3), 0);
        Due.thrown("setEcho(-4)", Due.BAD, () -> x.setEcho(-4));
        Due.thrown("setEcho(4)", Due.BAD, () -> x.setEcho(4));
        Due.is("setEcho(3)", x.setEcho(3), -3);
        Due.is("setEcho(0)", x.setEcho(0), 3);
    }

    private static void gain() {
        Due.by("promise 7");
        Radiohearth x = Frames.at(20, 5, 4, 35, 36, 20);
        Due.is("itself", x.gain(0, 0), 16);
        Due.is("same place", x.gain(0, 5), 16);
        Due.is("15 away", x.gain(0, 1), 1);
        Due.is("15 away, from there", x.gain(1, 0), 1);
        Due.is("16 away", x.gain(0, 2), 0);
        Due.is("15 above", x.gain(0, 3), 1);
        Due.is("16 above", x.gain(0, 4), 0);
        Due.is("32 away", x.gain(4, 2), 0);
        Due.thrown("no such one", Due.OUT, () -> x.gain(6, 0));
        Due.thrown("no such other", Due.OUT, () -> x.gain(0, 6));
        Due.thrown("below", Due.OUT, () -> x.gain(0, -1));
    }

    private static void send() {
        Due.by("promise 8");
        Radiohearth x = Frames.at(0, 63);
        Due.thrown("no such station", Due.OUT, () -> x.send(2, 0, 1));
        Due.thrown("no such goal", Due.OUT, () -> x.send(0, 2, 999));
        Due.thrown("to itself", Due.BAD, () -> x.send(1, 1, 1));
        Due.thrown("value -1", Due.BAD, () -> x.send(0, 1, -1));
        Due.thrown("value 256", Due.BAD, () -> x.send(0, 1, 256));
        for (int i = 0; i < 16; i++) {
            Due.is("send", x.send(0, 1, i == 0 ? 0 : 255), i);
        }
        Due.is("queue", x.queue(0), 16);
        Due.thrown("the 17th", Due.FULL, () -> x.send(0, 1, 1));
        Due.thrown("the 17th, and wrong", Due.BAD, () -> x.send(0, 1, 256));
        Due.is("the other one's first", x.send(1, 0, 1), 16);
        Due.is("fate", x.fate(16), '-');
        Due.thrown("fate(17)", Due.OUT, () -> x.fate(17));
        Due.thrown("fate(-1)", Due.OUT, () -> x.fate(-1));
    }

    private static void slotLimits() {
        Due.by("promise 9");
        Radiohearth x = new Radiohearth();
        Due.thrown("slot(0)", Due.BAD, () -> x.slot(0));
        Due.thrown("slot(21)", Due.BAD, () -> x.slot(21));
        Due.thrown("slot(most)", Due.BAD, () -> x.slot(Integer.MAX_VALUE));
        for (int i = 1; i < 30; i++) {
            Due.is("slot(20)", x.slot(20), 20 * i);
        }
        Due.is("slot(1)", x.slot(1), 581);
        Due.thrown("over 600", Due.BAD, () -> x.slot(20));
        Due.is("slot(19)", x.slot(19), 600);
        Due.thrown("over 600 by 1", Due.BAD, () -> x.slot(1));
    }

    private static void twoStationsTalk() {
        Due.by("promises 9 to 25");
        Radiohearth x = Frames.at(0, 5);
        x.slot(2);
        Due.is("message", x.send(0, 1, 77), 0);
        Due.thrown("not arrived", Due.NONE, () -> x.arrivedIn(0));
        x.slot(1);
        Due.is("0 wishes", "" + x.heard(0) + x.heard(1), "su");
        Due.is("its wish", x.frame(1), 2 << 24 | 7 << 18 | 1 << 12);
        Due.is("a wish leaves the queue", x.queue(0), 1);
        Due.is("a way is queued", x.queue(1), 1);
        Due.is("way by the wish", x.wayOver(1, 0) * 10 + x.wayHops(1, 0), 1);
        Due.is("no wait at the goal", x.waitOf(1), 0);
        x.slot(1);
        Due.is("1 speaks the way", "" + x.heard(0) + x.heard(1), "us");
        Due.is("the way", x.frame(0), 3 << 24 | 1 << 21 | 1 << 15);
        Due.is("way by the way", x.wayOver(0, 1) * 10 + x.wayHops(0, 1), 11);
        Due.is("the way awaits its answer", x.queue(1), 1);
        x.slot(1);
        Due.is("0 answers", x.frame(1), 1 << 24 | 1 << 18 | 1 << 15 | 1);
        Due.is("the way has left", x.queue(1), 0);
        x.slot(1);
        Due.is("0 speaks data", x.frame(1), 1 << 18 | 1 << 12 | 77);
        Due.is("fate", x.fate(0), 'a');
        Due.is("slot", x.arrivedIn(0), 6);
        Due.is("arrivals", x.arrivals(1) * 10 + x.arrivals(0), 10);
        Due.is("value", x.arrivalAt(1, 0), 77);
        Due.thrown("second value", Due.NONE, () -> x.arrivalAt(1, 1));
        Due.thrown("value -1", Due.NONE, () -> x.arrivalAt(1, -1));
        Due.thrown("value elsewhere", Due.NONE, () -> x.arrivalAt(0, 0));
        Due.is("data await their answer", x.queue(0), 1);
        x.slot(1);
        Due.is("1 answers", x.frame(0), 1 << 24 | 1 << 21 | 1 << 12);
        Due.is("data have left", x.queue(0), 0);
        Due.is("spoken", x.spoken(0) * 10 + x.spoken(1), 32);
        Due.is("mean", x.meanSlots(), 4.0);
        Due.is("share", x.share(), 1.0f);
        x.slot(1);
        Due.is("rest", "" + x.heard(0) + x.heard(1), "qq");
        Due.thrown("no frame", Due.NONE, () -> x.frame(0));
        x.send(0, 1, 8);
        x.slot(1);
        Due.is("with a way, no wish", x.frame(1), 1 << 18 | 1 << 12 | 1 << 8 | 8);
        Due.is("arrived at once", x.arrivedIn(1), 9);
        Due.is("wishes", x.wishes(0) * 10 + x.wishes(1), 10);
        Due.is("in their order", x.arrivalAt(1, 0) * 1000 + x.arrivalAt(1, 1), 77008);
        Due.is("mean of two", x.meanSlots(), 2.5);
        noSuchStation(x);
    }

    private static void noSuchStation(Radiohearth x) {
        for (int wrongOne : new int[] {-1, 2, 6, Integer.MAX_VALUE, Integer.MIN_VALUE}) {
            Due.thrown("arrivals", Due.OUT, () -> x.arrivals(wrongOne));
            Due.thrown("arrivalAt", Due.OUT, () -> x.arrivalAt(wrongOne, 5));
            Due.thrown("queue", Due.OUT, () -> x.queue(wrongOne));
            Due.thrown("waitOf", Due.OUT, () -> x.waitOf(wrongOne));
            Due.thrown("tries", Due.OUT, () -> x.tries(wrongOne));
            Due.thrown("wishes", Due.OUT, () -> x.wishes(wrongOne));
            Due.thrown("heard", Due.OUT, () -> x.heard(wrongOne));
            Due.thrown("sample", Due.OUT, () -> x.sample(wrongOne, 88));
            Due.thrown("frame", Due.OUT, () -> x.frame(wrongOne));
            Due.thrown("mended", Due.OUT, () -> x.mended(wrongOne));
            Due.thrown("spoken", Due.OUT, () -> x.spoken(wrongOne));
            Due.thrown("fate", Due.OUT, () -> x.fate(wrongOne));
            Due.thrown("arrivedIn", Due.OUT, () -> x.arrivedIn(wrongOne));
        }
    }

    // With the seed 1 the random numbers are 16838, 5758, 10113, 17515, 31051: modulo 4 they are 2, 2, 1, 3, 3.
    private static void threeStationsPassOn() {
        Due.by("promises 9 to 25, passing on");
        Radiohearth x = Frames.at(0, 12, 24);
        x.send(0, 2, 9);
        x.slot(1);
        Due.is("the relay's wish waits", x.queue(1) * 10 + x.waitOf(1), 12);
        Due.is("way back", x.wayOver(1, 0) * 10 + x.wayHops(1, 0), 1);
        Due.is("far one", x.heard(2), 'q');
        x.slot(2);
        Due.is("wait is over", x.waitOf(1), 0);
        Due.is("not yet", x.heard(1), 'q');
        x.slot(1);
        Due.is("the relay speaks", "" + x.heard(0) + x.heard(1) + x.heard(2), "usu");
        Due.is("value 1 more", x.frame(2), 2 << 24 | 1 << 21 | 7 << 18 | 2 << 12 | 1);
        Due.is("its own wish is not taken", x.queue(0), 1);
        Due.is("two hops", x.wayOver(2, 0) * 10 + x.wayHops(2, 0), 12);
        Due.thrown("no way to the relay", Due.NONE, () -> x.wayOver(2, 1));
        x.slot(1);
        Due.is("the goal speaks a way", x.frame(1), 3 << 24 | 2 << 21 | 1 << 18 | 2 << 15);
        x.slot(1);
        Due.is("the relay answers", x.frame(2), 1 << 24 | 1 << 21 | 2 << 18 | 2 << 15 | 1);
        Due.is("overheard answers are left", "" + x.heard(0) + x.queue(1), "u1");
        Due.is("left the goal", x.queue(2), 0);
        x.slot(1);
        Due.is("the relay's way", x.frame(0), 3 << 24 | 1 << 21 | 2 << 15 | 1);
        Due.is("not to that one", x.queue(2), 0);
        Due.is("two hops back", x.wayOver(0, 2) * 10 + x.wayHops(0, 2), 12);
        x.slot(1);
        Due.is("answer", x.frame(1), 1 << 24 | 1 << 18 | 2 << 15 | 1);
        x.slot(1);
        Due.is("data to the relay", x.frame(1), 1 << 18 | 2 << 12 | 9);
        Due.is("queued there", x.queue(1), 1);
        Due.is("not there yet", x.fate(0), '-');
        x.slot(1);
        Due.is("relay answers", x.frame(0), 1 << 24 | 1 << 21 | 2 << 12);
        x.slot(1);
        Due.is("data from the relay", x.frame(2), 1 << 21 | 2 << 18 | 2 << 12 | 9);
        Due.is("arrived", x.arrivedIn(0), 11);
        Due.is("none at the relay", x.arrivals(1), 0);
        x.slot(1);
        Due.is("all queues", x.queue(0) + x.queue(1) + x.queue(2), 0);
        Due.is("sound", x.isSound(), true);
    }

    // With the seed 1: modulo 2, 4, 8, 16 the waits are 0, 2, 1, 11.
    private static void missedAnswers() {
        Due.by("no answer");
        Radiohearth x = Frames.at(0, 5);
        x.send(0, 1, 1);
        x.slot(5);
        x.move(1, 63);
        x.send(0, 1, 2);
        String deeds = "";
        String tries = "";
        String waits = "";
        for (int slot = 6; slot <= 29; slot++) {
            x.slot(1);
            deeds += x.heard(0);
            tries += x.tries(0);
            waits += Integer.toHexString(x.waitOf(0));
            Due.is("fate in slot " + slot, x.fate(1), slot < 29 ? '-' : 'l');
        }
        Due.is("deeds", deeds, "sqsqqqsqqsqqqqqqqqqqqqsq");
        Due.is("tries", tries, "011222233344444444444440");
        Due.is("waits", waits, "0002100100" + "ba9876543210" + "00");
        Due.is("queue", x.queue(0), 0);
        Due.thrown("its way is gone", Due.NONE, () -> x.wayOver(0, 1));
        Due.thrown("its way is gone", Due.NONE, () -> x.wayHops(0, 1));
        Due.is("the other one's way stands", x.wayOver(1, 0), 0);
        Due.is("share", x.share(), 0.5f);
        x.move(1, 5);
        x.send(0, 1, 3);
        x.slot(4);
        Due.is("found anew", x.fate(2), 'a');
        Due.is("tries from 0 on", x.tries(0), 0);
    }

    private static void lostArrivesAllTheSame() {
        Due.by("lost, and arrived");
        Radiohearth x = Frames.at(0, 12, 24);
        x.send(0, 2, 9);
        x.slot(20);
        Due.is("first", x.fate(0), 'a');
        x.move(2, 40);
        x.send(1, 2, 1);
        x.slot(20);
        x.slot(20);
        Due.is("the relay's own", x.fate(1), 'l');
        Due.thrown("the relay's way is gone", Due.NONE, () -> x.wayOver(1, 2));
        Due.is("the way over it stands", x.wayOver(0, 2), 1);
        x.send(0, 2, 200);
        x.slot(1);
        Due.is("spoken", x.heard(0), 's');
        x.move(0, 63);
        for (int i = 0; i < 36 && x.fate(2) == '-'; i++) {
            x.slot(1);
        }
        Due.is("given up by its own", x.fate(2), 'l');
        Due.is("still with the relay", x.queue(1) > 0, true);
        Due.is("share", x.share(), (float) 1 / (float) 3);
        x.move(2, 24);
        x.slot(20);
        Due.is("arrived", x.fate(2), 'a');
        Due.is("value", x.arrivalAt(2, 1), 200);
        Due.is("share", x.share(), (float) 2 / (float) 3);
        Due.is("sound", x.isSound(), true);
    }

    // Each frame is wished for in 3 slots, 12 apart, and given up 12 slots later; the next one from the slot behind on.
    private static void wishesAndGivingUp() {
        Due.by("promise 20, wishing");
        int[] givenUp = {37, 74, 111, 148, 185, 198, 199, 200};
        Object[] wishes = inEachSlot(x -> x.wishes(0));
        Object[] deeds = inEachSlot(x -> x.heard(0));
        Object[] queues = inEachSlot(x -> x.queue(0));
        int made = 0;
        int lost = 0;
        for (int slot = 1; slot <= 201; slot++) {
            boolean due = slot < 198 && (slot - 1) % 37 % 12 == 0 && (slot - 1) % 37 < 36;
            made += due ? 1 : 0;
            lost += lost < 8 && slot == givenUp[lost] ? 1 : 0;
            Due.is("wishes in slot " + slot, wishes[slot], made);
            Due.is("deed in slot " + slot, deeds[slot], due ? 's' : 'q');
            Due.is("queue in slot " + slot, queues[slot], 8 - lost);
        }
        for (int i = 0; i < 8; i++) {
            int message = i;
            Object[] fates = inEachSlot(x -> x.fate(message));
            for (int slot = 1; slot <= 201; slot++) {
                Due.is("fate " + i + " in slot " + slot, fates[slot], slot >= givenUp[i] ? 'l' : '-');
            }
        }
        Due.is("wishes in all", made, 16);
        Due.is("spoken", inEachSlot(x -> x.spoken(0))[201], 16);
        Due.is("share", inEachSlot(x -> x.share())[201], 0.0f);
    }

    /** One answer behind each of 201 slots, in which a station has 8 messages for one out of reach. */
    private static Object[] inEachSlot(Function<Radiohearth, Object> call) {
        Radiohearth x = Frames.at(0, 63);
        for (int i = 0; i < 8; i++) {
            x.send(0, 1, i);
        }
        Object[] answers = new Object[202];
        for (int slot = 1; slot <= 201; slot++) {
            x.slot(1);
            answers[slot] = call.apply(x);
        }
        return answers;
    }

    private static void wishesCountAnew() {
        Due.by("wishing for another frame");
        Radiohearth x = Frames.at(0, 63, 5);
        x.send(0, 1, 1);
        x.slot(3);
        x.send(0, 2, 2);
        x.slot(9);
        Due.is("one at a time", x.wishes(0), 1);
        x.slot(1);
        Due.is("12 slots later", x.wishes(0), 2);
        for (int i = 0; i < 40 && x.fate(0) == '-'; i++) {
            x.slot(1);
        }
        Due.is("three for the first", x.wishes(0), 3);
        Due.is("lost", x.fate(0), 'l');
        x.slot(1);
        Due.is("one for the second", x.wishes(0), 4);
        x.slot(10);
        Due.is("arrived", x.fate(1), 'a');
    }

    // Two of like strength: what both say alike adds up, the rest is 0.
    private static void collisions() {
        Due.by("collisions");
        Radiohearth x = Frames.at(0, 12, 24);
        x.send(0, 1, 1);
        x.send(2, 1, 1);
        x.slot(1);
        Due.is("both speak", "" + x.heard(0) + x.heard(2), "ss");
        String one = Frames.spread(2 << 24 | 7 << 18 | 1 << 12);
        String two = Frames.spread(2 << 24 | 2 << 21 | 7 << 18 | 2 << 15 | 1 << 12);
        for (int i = 0; i < 88; i++) {
            int sum = 8 * Frames.sign(one, i) + 8 * Frames.sign(two, i);
            Due.is("sample " + i, x.sample(1, i), sum);
        }
        x.setPower(2, 4);
        Radiohearth y = Frames.at(0, 12, 24);
        y.setPower(2, 4);
        y.send(0, 1, 1);
        y.send(2, 1, 1);
        y.slot(1);
        Due.is("the louder one is understood", y.frame(1), 2 << 24 | 2 << 21 | 7 << 18 | 2 << 15 | 1 << 12);
        Due.thrown("a speaker hears nothing", Due.NONE, () -> y.sample(0, 0));
    }

    private static void ways() {
        Due.by("promises 17, 18");
        Radiohearth x = Frames.at(0, 5, 10);
        Due.thrown("none", Due.NONE, () -> x.wayOver(0, 1));
        Due.thrown("none", Due.NONE, () -> x.wayHops(0, 1));
        Due.thrown("same", Due.BAD, () -> x.wayOver(0, 0));
        Due.thrown("same", Due.BAD, () -> x.wayHops(2, 2));
        Due.thrown("no such station", Due.OUT, () -> x.wayOver(3, 3));
        Due.thrown("no such station", Due.OUT, () -> x.wayHops(-1, -1));
        Due.thrown("no such goal", Due.OUT, () -> x.wayOver(0, 3));
        Due.thrown("no such goal", Due.OUT, () -> x.wayHops(0, -1));
        x.send(0, 1, 1);
        x.slot(1);
        Due.is("one that overhears a wish", x.wayOver(2, 0) * 10 + x.wayHops(2, 0), 1);
        Due.is("and passes it on", x.queue(2), 1);
        Due.thrown("its way only", Due.NONE, () -> x.wayOver(2, 1));
        x.slot(1);
        Due.thrown("ways to others are left", Due.NONE, () -> x.wayOver(2, 1));
        Due.is("the nearer way stays", x.wayOver(1, 0) * 10 + x.wayHops(1, 0), 1);
    }

    private static void flood() {
        Due.by("promise 19");
        Radiohearth x = Frames.at(0, 15, 30, 46, 45);
        Due.is("next", x.hopsByFlood(0, 1), 1);
        Due.is("over one", x.hopsByFlood(0, 2), 2);
        Due.is("back", x.hopsByFlood(2, 0), 2);
        Due.is("over all", x.hopsByFlood(0, 3), 4);
        x.move(4, 63);
        Due.thrown("16 is too far", Due.NONE, () -> x.hopsByFlood(0, 3));
        Due.thrown("alone", Due.NONE, () -> x.hopsByFlood(4, 0));
        x.move(4, 0);
        Due.is("same place", x.hopsByFlood(4, 0), 1);
        Due.thrown("same", Due.BAD, () -> x.hopsByFlood(4, 4));
        Due.thrown("no such station", Due.OUT, () -> x.hopsByFlood(5, 5));
        Due.thrown("no such goal", Due.OUT, () -> x.hopsByFlood(0, 5));
        Due.thrown("below", Due.OUT, () -> x.hopsByFlood(-1, 0));
    }

    // The whitener begins 0000 1110 1111 0010 1100; so the wish 1000 0111 0000 1000 0000 .. becomes 1000 1001 1111 1010
    // 1100 .., coded 11 10 11 00 11 10 11 11 01 10 10 10 10 01 00 10 00 01 01 11 ..
    private static void samplesOfAFrame() {
        Due.by("promise 22");
        Radiohearth x = Frames.at(0, 63, 14);
        Due.thrown("ahead of the first slot", Due.NONE, () -> x.sample(2, 0));
        x.send(0, 2, 1);
        x.send(0, 1, 1);
        x.move(1, 15);
        x.move(2, 63);
        x.slot(1);
        Due.is("understood", x.frame(1), 2 << 24 | 7 << 18 | 2 << 12);
        int[] first = {-2, 2, -2, 2};
        int[] second = {-2, -2, 2, 2};
        for (int i = 0; i < 4; i++) {
            Due.is("sample " + i, x.sample(1, i), first[i]);
            Due.is("sample " + (8 + i), x.sample(1, 8 + i), second[i]);
        }
        String coded = Frames.spread(2 << 24 | 7 << 18 | 2 << 12);
        for (int i = 0; i < 88; i++) {
            Due.is("sample " + i, x.sample(1, i), 2 * Frames.sign(coded, i));
        }
        Due.is("mended", x.mended(1), 0);
        Due.thrown("sample 88", Due.NONE, () -> x.sample(1, 88));
        Due.thrown("sample -1", Due.NONE, () -> x.sample(1, -1));
        Due.thrown("the speaker", Due.NONE, () -> x.sample(0, 0));
        Due.thrown("one out of reach", Due.NONE, () -> x.sample(2, 0));
        Due.thrown("no frame there", Due.NONE, () -> x.frame(2));
        Due.thrown("nothing mended there", Due.NONE, () -> x.mended(0));
        Due.is("deeds", "" + x.heard(0) + x.heard(1) + x.heard(2), "suq");
        x.slot(1);
        Due.thrown("gone with the next slot", Due.NONE, () -> x.sample(0, 0));
    }

    private static void echoAndBounds() {
        Due.by("echo and bounds");
        for (int echo = -3; echo <= 3; echo++) {
            for (int place : new int[] {0, 1, 11, 13, 15}) {
                Radiohearth x = Frames.at(0, place);
                x.setPower(0, echo % 2 == 0 ? 3 : 1);
                x.setEcho(echo);
                x.send(0, 1, 1);
                x.slot(1);
                int loud = (echo % 2 == 0 ? 3 : 1) * (16 - place);
                String coded = Frames.spread(2 << 24 | 7 << 18 | 1 << 12);
                int ahead = 0;
                for (int i = 0; i < 88; i++) {
                    int clean = loud * Frames.sign(coded, i);
                    int bent = Math.abs(echo * ahead) / 4 * Integer.signum(echo * ahead);
                    Due.is("sample " + i + " with echo " + echo, x.sample(1, i), clean + bent);
                    ahead = clean;
                }
            }
        }
        Radiohearth y = Frames.at(0, 0, 0);
        y.setPower(0, 4);
        y.setPower(1, 4);
        y.send(0, 2, 1);
        y.send(1, 2, 1);
        y.slot(1);
        String one = Frames.spread(2 << 24 | 7 << 18 | 2 << 12);
        String two = Frames.spread(2 << 24 | 1 << 21 | 7 << 18 | 1 << 15 | 2 << 12);
        for (int i = 0; i < 88; i++) {
            int sum = 64 * Frames.sign(one, i) + 64 * Frames.sign(two, i);
            Due.is("held sample " + i, y.sample(2, i), Math.max(-127, Math.min(127, sum)));
        }
    }

    // The air's random numbers begin 16838, 5758, 10113, 17515: with level 10 the noise is 7, -6, 2, -9.
    private static void noiseDraws() {
        Due.by("noise");
        Radiohearth x = Frames.at(15, 0, 30);
        x.setPower(0, 4);
        x.setNoise(10);
        x.send(0, 1, 1);
        x.slot(1);
        int[] first = {-4 + 7, 4 - 6, -4 + 2, 4 - 9};
        for (int i = 0; i < 4; i++) {
            Due.is("sample " + i, x.sample(1, i), first[i]);
        }
        int seed = 1;
        String coded = Frames.spread(2 << 24 | 7 << 18 | 1 << 12);
        for (int i = 0; i < 176; i++) {
            seed = 1103515245 * seed + 12345;
            int noise = (seed >> 16 & 32767) % 21 - 10;
            int hearer = i < 88 ? 1 : 2;
            int due = 4 * Frames.sign(coded, i % 88) + noise;
            Due.is("sample " + i % 88 + " of " + hearer, x.sample(hearer, i % 88), due);
        }
        Radiohearth y = Frames.at(15, 0);
        y.send(0, 1, 1);
        y.slot(2);
        y.setNoise(99);
        y.slot(1);
        int later = 1;
        String answer = Frames.spread(1 << 24 | 1 << 18 | 1 << 15 | 1);
        for (int i = 0; i < 3 * 88; i++) {
            later = 1103515245 * later + 12345;
            if (i >= 2 * 88) {
                int noise = (later >> 16 & 32767) % 199 - 99;
                Due.is("quiet air draws too, " + i, y.sample(1, i % 88), 2 * Frames.sign(answer, i % 88) + noise);
            }
        }
    }

    private static void mended() {
        Due.by("promises 23, 24");
        int most = 0;
        for (int level = 4; level < 30; level++) {
            Radiohearth x = Frames.at(0, 10);
            x.setNoise(level);
            x.send(0, 1, 1);
            x.slot(1);
            int frame = 2 << 24 | 7 << 18 | 1 << 12;
            if (x.heard(1) == 'c') {
                Due.thrown("wrong check", Due.NONE, () -> x.frame(1));
                Due.thrown("wrong check", Due.NONE, () -> x.mended(1));
                Due.is("nothing taken", x.queue(1), 0);
                Due.is("heard all the same", x.sample(1, 0) >= -127, true);
                continue;
            }
            Due.is("frame", x.frame(1), frame);
            String coded = Frames.spread(frame);
            int count = 0;
            for (int i = 0; i < 88; i++) {
                count += x.sample(1, i) * Frames.sign(coded, i) < 0 ? 1 : 0;
            }
            Due.is("mended", x.mended(1), count);
            most = Math.max(most, count);
        }
        Due.is("some are mended", most > 5, true);
    }

    private static void typeAndCode() {
        Due.by("promises 26, 27");
        Radiohearth x = new Radiohearth();
        Due.thrown("'2'", Due.BAD, () -> x.type('2'));
        Due.thrown("'/'", Due.BAD, () -> x.type('/'));
        Due.thrown("(char) 0", Due.BAD, () -> x.type((char) 0));
        Due.thrown("(char) 1", Due.BAD, () -> x.type((char) 1));
        for (int i = 1; i <= 10; i++) {
            Due.is("type", x.type(i % 2 == 0 ? '0' : '1'), i);
        }
        Due.thrown("the 11th", Due.FULL, () -> x.type('0'));
        Due.thrown("the 11th, and wrong", Due.BAD, () -> x.type('x'));
        Due.is("code", x.code(), 24);
        Due.is("decode", x.decode(), 1024 + 0b1010101010);
        Due.is("type anew", x.type('1'), 1);
        Due.is("weights stand", x.decode(), 1024 + 0b1010101010);
        x.type('0');
        x.type('1');
        Due.is("code", x.code(), 10);
        int[] coded = {1, 1, 1, 0, 0, 0, 1, 0, 1, 1};
        for (int i = 0; i < 10; i++) {
            Due.is("weight " + i, x.weight(i), coded[i] == 0 ? 8 : -8);
        }
        Due.is("sum", x.sum(), 80L);
        Due.is("empty word", x.code(), 4);
        Due.is("weight", x.weight(3), 8);
        Due.is("decode", x.decode(), 1);
        Due.is("by trying", x.decodeByTrying(), 1);
        Due.is("sum", x.sum(), 32L);
    }

    private static void weights() {
        Due.by("promises 28, 29");
        Radiohearth x = new Radiohearth();
        Due.thrown("none yet", Due.OUT, () -> x.setWeight(0, 0));
        x.type('1');
        Due.thrown("not coded yet", Due.OUT, () -> x.weight(0));
        x.code();
        Due.thrown("weight(6)", Due.OUT, () -> x.weight(6));
        Due.thrown("weight(-1)", Due.OUT, () -> x.weight(-1));
        Due.is("setWeight", x.setWeight(5, 99), -8);
        Due.is("setWeight", x.setWeight(5, -99), 99);
        Due.thrown("100", Due.BAD, () -> x.setWeight(5, 100));
        Due.thrown("-100", Due.BAD, () -> x.setWeight(5, -100));
        Due.thrown("no such weight", Due.OUT, () -> x.setWeight(6, 100));
        Due.thrown("no such weight", Due.OUT, () -> x.setWeight(-1, 1));
        Due.is("weight", x.weight(5), -99);
        x.type('1');
        x.type('1');
        x.code();
        x.code();
        Due.thrown("fewer weights", Due.OUT, () -> x.weight(4));
    }

    private static void set(Radiohearth x, int... weights) {
        for (int i = 0; i < weights.length; i++) {
            x.setWeight(i, weights[i]);
        }
    }

    private static void dueWord(Radiohearth x, int word, long sum) {
        Due.is("decode", x.decode(), word);
        Due.is("decodeByTrying", x.decodeByTrying(), word);
        Due.is("sum", x.sum(), sum);
        Due.is("isSound", x.isSound(), true);
    }

    // Coded, 1 is 11 10 11; 01 is 00 11 10 11; 10 is 11 10 11 00; 11 is 11 01 01 11.
    private static void decoding() {
        Due.by("promises 30, 31, 32");
        Radiohearth x = new Radiohearth();
        x.type('1');
        x.code();
        dueWord(x, 3, 48);
        set(x, 8, -8, 0, 5, 0, 0);
        dueWord(x, 2, 5);
        set(x, 7);
        dueWord(x, 3, 6);
        set(x, -99, -99, -99, -99, -99, -99);
        dueWord(x, 3, 396);
        x.type('1');
        x.type('1');
        x.code();
        dueWord(x, 7, 64);
        set(x, 0, 0, 0, 0, 0, 0, 0, 0);
        dueWord(x, 4, 0);
        set(x, 0, 0, -5, 0, -5, 0, 0, 0);
        dueWord(x, 5, 10);
        set(x, -1, 0, -5, 0, -5, 0, 0, 0);
        dueWord(x, 6, 11);
        for (int i = 0; i < 10; i++) {
            x.type('1');
        }
        x.code();
        dueWord(x, 2047, 192);
        for (int i = 0; i < 24; i++) {
            x.setWeight(i, 99);
        }
        dueWord(x, 1024, 24 * 99);
    }

    private static void figures() {
        Due.by("promises 33, 34, 35");
        Radiohearth x = Frames.at(0, 5, 63);
        x.send(0, 1, 1);
        x.send(2, 0, 1);
        x.send(2, 0, 2);
        Due.is("none yet", x.share(), 0.0f);
        Due.thrown("no mean", Due.NONE, () -> x.meanSlots());
        x.slot(20);
        Due.is("a third", x.share(), 1.0f / 3.0f);
        Due.is("mean", x.meanSlots(), 4.0);
        x.send(0, 1, 1);
        x.slot(1);
        Due.is("a half", x.share(), 0.5f);
        Due.is("from when it was sent", x.meanSlots(), 2.5);
        x.slot(4);
        x.send(0, 1, 2);
        x.slot(1);
        Due.is("a sum by three", x.meanSlots(), 6.0 / 3.0);
        Due.is("sound", x.isSound(), true);
    }

    private static void nothingChanges() {
        Due.by("what throws changes nothing");
        Radiohearth x = Frames.at(0, 5);
        x.send(0, 1, 1);
        Due.thrown("send", Due.BAD, () -> x.send(0, 0, 1));
        Due.thrown("slot", Due.BAD, () -> x.slot(21));
        Due.thrown("move", Due.BAD, () -> x.move(1, 64));
        Due.thrown("setPower", Due.BAD, () -> x.setPower(0, 9));
        Due.thrown("setNoise", Due.BAD, () -> x.setNoise(100));
        Due.thrown("setEcho", Due.BAD, () -> x.setEcho(9));
        Due.is("queue", x.queue(0), 1);
        Due.is("next message", x.send(0, 1, 2), 1);
        Due.is("slots", x.slot(1), 1);
        Due.is("gain", x.gain(0, 1), 11);
        Due.is("sample", x.sample(1, 0), -22);
    }

    private static void farNumbers() {
        Due.by("far numbers");
        Radiohearth x = Frames.at(0, 5);
        x.code();
        for (int far : new int[] {Integer.MIN_VALUE, Integer.MIN_VALUE + 1, -100, 1000, Integer.MAX_VALUE}) {
            Due.thrown("addStation", Due.BAD, () -> x.addStation(far, 1, 1));
            Due.thrown("addStation", Due.BAD, () -> x.addStation(1, far, 1));
            Due.thrown("addStation", Due.BAD, () -> x.addStation(1, 1, far));
            Due.thrown("move", Due.OUT, () -> x.move(far, far));
            Due.thrown("move", Due.BAD, () -> x.move(0, far));
            Due.thrown("setPower", Due.OUT, () -> x.setPower(far, far));
            Due.thrown("setPower", Due.BAD, () -> x.setPower(0, far));
            Due.thrown("setNoise", Due.BAD, () -> x.setNoise(far));
            Due.thrown("setEcho", Due.BAD, () -> x.setEcho(far));
            Due.thrown("gain", Due.OUT, () -> x.gain(far, 0));
            Due.thrown("gain", Due.OUT, () -> x.gain(0, far));
            Due.thrown("send", Due.OUT, () -> x.send(far, far, far));
            Due.thrown("send", Due.OUT, () -> x.send(0, far, far));
            Due.thrown("send", Due.BAD, () -> x.send(0, 1, far));
            Due.thrown("slot", Due.BAD, () -> x.slot(far));
            Due.thrown("arrivalAt", Due.NONE, () -> x.arrivalAt(0, far));
            Due.thrown("wayOver", Due.OUT, () -> x.wayOver(far, far));
            Due.thrown("wayOver", Due.OUT, () -> x.wayOver(0, far));
            Due.thrown("wayHops", Due.OUT, () -> x.wayHops(far, far));
            Due.thrown("wayHops", Due.OUT, () -> x.wayHops(0, far));
            Due.thrown("hopsByFlood", Due.OUT, () -> x.hopsByFlood(far, far));
            Due.thrown("hopsByFlood", Due.OUT, () -> x.hopsByFlood(0, far));
            Due.thrown("sample", Due.NONE, () -> x.sample(0, far));
            Due.thrown("weight", Due.OUT, () -> x.weight(far));
            Due.thrown("setWeight", Due.OUT, () -> x.setWeight(far, far));
            Due.thrown("setWeight", Due.BAD, () -> x.setWeight(0, far));
        }
        noSuchStation(x);
    }
}
