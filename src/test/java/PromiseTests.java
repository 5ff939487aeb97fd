import java.util.NoSuchElementException;
import java.util.function.Supplier;

/** Each promise with ordinary inputs, edges and wrong inputs; the due answers are worked out from the document. */
public final class PromiseTests {
    private static final Class<?> OUT = IndexOutOfBoundsException.class;
    private static final Class<?> BAD = IllegalArgumentException.class;
    private static final Class<?> STATE = IllegalStateException.class;
    private static final Class<?> NONE = NoSuchElementException.class;

    private static int wrong = 0;
    private static String part = "";

    public static void main(String[] args) {
        newObject();
        addStation();
        moveAndPower();
        noiseAndEchoLevels();
        gain();
        send();
        slotLimits();
        twoStationsTalk();
        threeStationsPassOn();
        missedAnswers();
        lostArrivesAllTheSame();
        wishesAndGivingUp();
        wishesCountAnew();
        collisions();
        ways();
        flood();
        samplesOfAFrame();
        echoAndBounds();
        noiseDraws();
        mended();
        typeAndCode();
        weights();
        decoding();
        figures();
        nothingChanges();
        farNumbers();
        System.out.println("promises: " + (wrong == 0 ? "all answers are as due" : wrong + " answers are not as due"));
        if (wrong != 0) {
            System.exit(1);
        }
    }

    private static void due(String call, Object got, Object want) {
        if (!got.equals(want)) {
            wrong++;
            System.out.println(part + ": " + call + " answered " + got + ", due is " + want);
        }
    }

    private static void dueThrow(String call, Class<?> want, Supplier<Object> run) {
        Object got;
        try {
            got = run.get();
        } catch (RuntimeException e) {
            got = e.getClass();
        }
        due(call, got, want);
    }

    /** Stations of power 2 and seed 1 at the places. */
    private static Radiohearth at(int... places) {
        Radiohearth x = new Radiohearth();
        for (int place : places) {
            x.addStation(place, 2, 1);
        }
        return x;
    }

    private static void pass(Radiohearth x, int slots) {
        for (int i = 0; i < slots; i++) {
            x.slot(1);
        }
    }

    private static void newObject() {
        part = "promise 1";
        Radiohearth x = new Radiohearth();
        dueThrow("arrivals(0)", OUT, () -> x.arrivals(0));
        dueThrow("fate(0)", OUT, () -> x.fate(0));
        dueThrow("share()", NONE, () -> x.share());
        dueThrow("meanSlots()", NONE, () -> x.meanSlots());
        dueThrow("weight(0)", OUT, () -> x.weight(0));
        dueThrow("decode()", NONE, () -> x.decode());
        dueThrow("decodeByTrying()", NONE, () -> x.decodeByTrying());
        dueThrow("sum()", NONE, () -> x.sum());
        due("isSound()", x.isSound(), true);
        due("setNoise(0)", x.setNoise(0), 0);
        due("setEcho(0)", x.setEcho(0), 0);
        due("slot(1)", x.slot(1), 1);
        due("code()", x.code(), 4);
        due("type", x.type('1'), 1);
    }

    private static void addStation() {
        part = "promise 2";
        Radiohearth x = new Radiohearth();
        dueThrow("place -1", BAD, () -> x.addStation(-1, 1, 1));
        dueThrow("place 64", BAD, () -> x.addStation(64, 1, 1));
        dueThrow("power 0", BAD, () -> x.addStation(0, 0, 1));
        dueThrow("power 5", BAD, () -> x.addStation(0, 5, 1));
        dueThrow("seed 0", BAD, () -> x.addStation(0, 1, 0));
        dueThrow("seed 1000", BAD, () -> x.addStation(0, 1, 1000));
        dueThrow("gain", OUT, () -> x.gain(0, 0));
        due("first", x.addStation(0, 1, 1), 0);
        due("second", x.addStation(63, 4, 999), 1);
        due("same place", x.addStation(63, 4, 999), 2);
        x.addStation(1, 1, 1);
        x.addStation(2, 1, 1);
        due("sixth", x.addStation(3, 1, 1), 5);
        dueThrow("seventh", STATE, () -> x.addStation(4, 1, 1));
        dueThrow("seventh, and wrong", BAD, () -> x.addStation(64, 1, 1));
        due("deed", x.heard(5), 'q');
        due("frames", x.queue(5), 0);
        due("wait", x.waitOf(5), 0);
        due("tries", x.tries(5), 0);
        due("wishes", x.wishes(5), 0);
        due("spoken", x.spoken(5), 0);
        due("arrivals", x.arrivals(5), 0);
    }

    private static void moveAndPower() {
        part = "promises 3, 4";
        Radiohearth x = at(10, 20);
        due("move", x.move(0, 63), 10);
        due("move back", x.move(0, 0), 63);
        due("no move", x.move(0, 0), 0);
        due("the other", x.move(1, 21), 20);
        dueThrow("move(2, 0)", OUT, () -> x.move(2, 0));
        dueThrow("move(-1, 64)", OUT, () -> x.move(-1, 64));
        dueThrow("move(0, 64)", BAD, () -> x.move(0, 64));
        dueThrow("move(0, -1)", BAD, () -> x.move(0, -1));
        due("gain", x.gain(0, 1), 0);
        due("setPower", x.setPower(0, 4), 2);
        due("setPower", x.setPower(0, 1), 4);
        dueThrow("setPower(2, 1)", OUT, () -> x.setPower(2, 1));
        dueThrow("setPower(-1, 0)", OUT, () -> x.setPower(-1, 0));
        dueThrow("setPower(1, 0)", BAD, () -> x.setPower(1, 0));
        dueThrow("setPower(1, 5)", BAD, () -> x.setPower(1, 5));
        due("setPower", x.setPower(1, 3), 2);
    }

    private static void noiseAndEchoLevels() {
        part = "promises 5, 6";
        Radiohearth x = new Radiohearth();
        due("setNoise(99)", x.setNoise(99), 0);
        dueThrow("setNoise(100)", BAD, () -> x.setNoise(100));
        dueThrow("setNoise(-1)", BAD, () -> x.setNoise(-1));
        due("setNoise(0)", x.setNoise(0), 99);
        due("setEcho(-3)", x.setEcho(-3), 0);
        dueThrow("setEcho(-4)", BAD, () -> x.setEcho(-4));
        dueThrow("setEcho(4)", BAD, () -> x.setEcho(4));
        due("setEcho(3)", x.setEcho(3), -3);
        due("setEcho(0)", x.setEcho(0), 3);
    }

    private static void gain() {
        part = "promise 7";
        Radiohearth x = at(20, 5, 4, 35, 36, 20);
        due("itself", x.gain(0, 0), 16);
        due("same place", x.gain(0, 5), 16);
        due("15 away", x.gain(0, 1), 1);
        due("15 away, from there", x.gain(1, 0), 1);
        due("16 away", x.gain(0, 2), 0);
        due("15 above", x.gain(0, 3), 1);
        due("16 above", x.gain(0, 4), 0);
        due("32 away", x.gain(4, 2), 0);
        dueThrow("no such one", OUT, () -> x.gain(6, 0));
        dueThrow("no such other", OUT, () -> x.gain(0, 6));
        dueThrow("below", OUT, () -> x.gain(0, -1));
    }

    private static void send() {
        part = "promise 8";
        Radiohearth x = at(0, 63);
        dueThrow("no such station", OUT, () -> x.send(2, 0, 1));
        dueThrow("no such goal", OUT, () -> x.send(0, 2, 999));
        dueThrow("to itself", BAD, () -> x.send(1, 1, 1));
        dueThrow("value -1", BAD, () -> x.send(0, 1, -1));
        dueThrow("value 256", BAD, () -> x.send(0, 1, 256));
        for (int i = 0; i < 16; i++) {
            due("send", x.send(0, 1, i == 0 ? 0 : 255), i);
        }
        due("queue", x.queue(0), 16);
        dueThrow("the 17th", STATE, () -> x.send(0, 1, 1));
        dueThrow("the 17th, and wrong", BAD, () -> x.send(0, 1, 256));
        due("the other one's first", x.send(1, 0, 1), 16);
        due("fate", x.fate(16), '-');
        dueThrow("fate(17)", OUT, () -> x.fate(17));
        dueThrow("fate(-1)", OUT, () -> x.fate(-1));
    }

    private static void slotLimits() {
        part = "promise 9";
        Radiohearth x = new Radiohearth();
        dueThrow("slot(0)", BAD, () -> x.slot(0));
        dueThrow("slot(21)", BAD, () -> x.slot(21));
        dueThrow("slot(most)", BAD, () -> x.slot(Integer.MAX_VALUE));
        for (int i = 1; i < 30; i++) {
            due("slot(20)", x.slot(20), 20 * i);
        }
        due("slot(1)", x.slot(1), 581);
        dueThrow("over 600", BAD, () -> x.slot(20));
        due("slot(19)", x.slot(19), 600);
        dueThrow("over 600 by 1", BAD, () -> x.slot(1));
    }

    private static void twoStationsTalk() {
        part = "promises 9 to 25";
        Radiohearth x = at(0, 5);
        x.slot(2);
        due("message", x.send(0, 1, 77), 0);
        dueThrow("not arrived", NONE, () -> x.arrivedIn(0));
        x.slot(1);
        due("0 wishes", "" + x.heard(0) + x.heard(1), "su");
        due("its wish", x.frame(1), 2 << 24 | 7 << 18 | 1 << 12);
        due("a wish leaves the queue", x.queue(0), 1);
        due("a way is queued", x.queue(1), 1);
        due("way by the wish", x.wayOver(1, 0) * 10 + x.wayHops(1, 0), 1);
        due("no wait at the goal", x.waitOf(1), 0);
        x.slot(1);
        due("1 speaks the way", "" + x.heard(0) + x.heard(1), "us");
        due("the way", x.frame(0), 3 << 24 | 1 << 21 | 1 << 15);
        due("way by the way", x.wayOver(0, 1) * 10 + x.wayHops(0, 1), 11);
        due("the way awaits its answer", x.queue(1), 1);
        x.slot(1);
        due("0 answers", x.frame(1), 1 << 24 | 1 << 18 | 1 << 15 | 1);
        due("the way has left", x.queue(1), 0);
        x.slot(1);
        due("0 speaks data", x.frame(1), 1 << 18 | 1 << 12 | 77);
        due("fate", x.fate(0), 'a');
        due("slot", x.arrivedIn(0), 6);
        due("arrivals", x.arrivals(1) * 10 + x.arrivals(0), 10);
        due("value", x.arrivalAt(1, 0), 77);
        dueThrow("second value", NONE, () -> x.arrivalAt(1, 1));
        dueThrow("value -1", NONE, () -> x.arrivalAt(1, -1));
        dueThrow("value elsewhere", NONE, () -> x.arrivalAt(0, 0));
        due("data await their answer", x.queue(0), 1);
        x.slot(1);
        due("1 answers", x.frame(0), 1 << 24 | 1 << 21 | 1 << 12);
        due("data have left", x.queue(0), 0);
        due("spoken", x.spoken(0) * 10 + x.spoken(1), 32);
        due("mean", x.meanSlots(), 4.0);
        due("share", x.share(), 1.0f);
        x.slot(1);
        due("rest", "" + x.heard(0) + x.heard(1), "qq");
        dueThrow("no frame", NONE, () -> x.frame(0));
        x.send(0, 1, 8);
        x.slot(1);
        due("with a way, no wish", x.frame(1), 1 << 18 | 1 << 12 | 1 << 8 | 8);
        due("arrived at once", x.arrivedIn(1), 9);
        due("wishes", x.wishes(0) * 10 + x.wishes(1), 10);
        due("in their order", x.arrivalAt(1, 0) * 1000 + x.arrivalAt(1, 1), 77008);
        due("mean of two", x.meanSlots(), 2.5);
        noSuchStation(x);
    }

    private static void noSuchStation(Radiohearth x) {
        for (int wrongOne : new int[] {-1, 2, 6, Integer.MAX_VALUE, Integer.MIN_VALUE}) {
            dueThrow("arrivals", OUT, () -> x.arrivals(wrongOne));
            dueThrow("arrivalAt", OUT, () -> x.arrivalAt(wrongOne, 5));
            dueThrow("queue", OUT, () -> x.queue(wrongOne));
            dueThrow("waitOf", OUT, () -> x.waitOf(wrongOne));
            dueThrow("tries", OUT, () -> x.tries(wrongOne));
            dueThrow("wishes", OUT, () -> x.wishes(wrongOne));
            dueThrow("heard", OUT, () -> x.heard(wrongOne));
            dueThrow("sample", OUT, () -> x.sample(wrongOne, 88));
            dueThrow("frame", OUT, () -> x.frame(wrongOne));
            dueThrow("mended", OUT, () -> x.mended(wrongOne));
            dueThrow("spoken", OUT, () -> x.spoken(wrongOne));
            dueThrow("fate", OUT, () -> x.fate(wrongOne));
            dueThrow("arrivedIn", OUT, () -> x.arrivedIn(wrongOne));
        }
    }

    // With the seed 1 the random numbers are 16838, 5758, 10113, 17515, 31051: modulo 4 they are 2, 2, 1, 3, 3.
    private static void threeStationsPassOn() {
        part = "promises 9 to 25, passing on";
        Radiohearth x = at(0, 12, 24);
        x.send(0, 2, 9);
        x.slot(1);
        due("the relay's wish waits", x.queue(1) * 10 + x.waitOf(1), 12);
        due("way back", x.wayOver(1, 0) * 10 + x.wayHops(1, 0), 1);
        due("far one", x.heard(2), 'q');
        x.slot(2);
        due("wait is over", x.waitOf(1), 0);
        due("not yet", x.heard(1), 'q');
        x.slot(1);
        due("the relay speaks", "" + x.heard(0) + x.heard(1) + x.heard(2), "usu");
        due("value 1 more", x.frame(2), 2 << 24 | 1 << 21 | 7 << 18 | 2 << 12 | 1);
        due("its own wish is not taken", x.queue(0), 1);
        due("two hops", x.wayOver(2, 0) * 10 + x.wayHops(2, 0), 12);
        dueThrow("no way to the relay", NONE, () -> x.wayOver(2, 1));
        x.slot(1);
        due("the goal speaks a way", x.frame(1), 3 << 24 | 2 << 21 | 1 << 18 | 2 << 15);
        x.slot(1);
        due("the relay answers", x.frame(2), 1 << 24 | 1 << 21 | 2 << 18 | 2 << 15 | 1);
        due("overheard answers are left", "" + x.heard(0) + x.queue(1), "u1");
        due("left the goal", x.queue(2), 0);
        x.slot(1);
        due("the relay's way", x.frame(0), 3 << 24 | 1 << 21 | 2 << 15 | 1);
        due("not to that one", x.queue(2), 0);
        due("two hops back", x.wayOver(0, 2) * 10 + x.wayHops(0, 2), 12);
        x.slot(1);
        due("answer", x.frame(1), 1 << 24 | 1 << 18 | 2 << 15 | 1);
        x.slot(1);
        due("data to the relay", x.frame(1), 1 << 18 | 2 << 12 | 9);
        due("queued there", x.queue(1), 1);
        due("not there yet", x.fate(0), '-');
        x.slot(1);
        due("relay answers", x.frame(0), 1 << 24 | 1 << 21 | 2 << 12);
        x.slot(1);
        due("data from the relay", x.frame(2), 1 << 21 | 2 << 18 | 2 << 12 | 9);
        due("arrived", x.arrivedIn(0), 11);
        due("none at the relay", x.arrivals(1), 0);
        x.slot(1);
        due("all queues", x.queue(0) + x.queue(1) + x.queue(2), 0);
        due("sound", x.isSound(), true);
    }

    // With the seed 1: modulo 2, 4, 8, 16 the waits are 0, 2, 1, 11.
    private static void missedAnswers() {
        part = "no answer";
        Radiohearth x = at(0, 5);
        x.send(0, 1, 1);
        x.slot(5);
        x.move(1, 63);
        x.send(0, 1, 2);
        String deeds = "";
        String tries = "";
        String waits = "";
        for (int slot = 6; slot <= 29; slot++) {
            x.slot(1);
            deeds += x.heard(0);
            tries += x.tries(0);
            waits += Integer.toHexString(x.waitOf(0));
            due("fate in slot " + slot, x.fate(1), slot < 29 ? '-' : 'l');
        }
        due("deeds", deeds, "sqsqqqsqqsqqqqqqqqqqqqsq");
        due("tries", tries, "011222233344444444444440");
        due("waits", waits, "0002100100" + "ba9876543210" + "00");
        due("queue", x.queue(0), 0);
        dueThrow("its way is gone", NONE, () -> x.wayOver(0, 1));
        dueThrow("its way is gone", NONE, () -> x.wayHops(0, 1));
        due("the other one's way stands", x.wayOver(1, 0), 0);
        due("share", x.share(), 0.5f);
        x.move(1, 5);
        x.send(0, 1, 3);
        x.slot(4);
        due("found anew", x.fate(2), 'a');
        due("tries from 0 on", x.tries(0), 0);
    }

    private static void lostArrivesAllTheSame() {
        part = "lost, and arrived";
        Radiohearth x = at(0, 12, 24);
        x.send(0, 2, 9);
        x.slot(20);
        due("first", x.fate(0), 'a');
        x.move(2, 40);
        x.send(1, 2, 1);
        x.slot(20);
        x.slot(20);
        due("the relay's own", x.fate(1), 'l');
        dueThrow("the relay's way is gone", NONE, () -> x.wayOver(1, 2));
        due("the way over it stands", x.wayOver(0, 2), 1);
        x.send(0, 2, 200);
        x.slot(1);
        due("spoken", x.heard(0), 's');
        x.move(0, 63);
        for (int i = 0; i < 36 && x.fate(2) == '-'; i++) {
            x.slot(1);
        }
        due("given up by its own", x.fate(2), 'l');
        due("still with the relay", x.queue(1) > 0, true);
        due("share", x.share(), (float) 1 / (float) 3);
        x.move(2, 24);
        x.slot(20);
        due("arrived", x.fate(2), 'a');
        due("value", x.arrivalAt(2, 1), 200);
        due("share", x.share(), (float) 2 / (float) 3);
        due("sound", x.isSound(), true);
    }

    // Each frame is wished for in 3 slots, 12 apart, and given up 12 slots later; the next one from the slot behind on.
    private static void wishesAndGivingUp() {
        part = "promise 20, wishing";
        Radiohearth x = at(0, 63);
        for (int i = 0; i < 8; i++) {
            x.send(0, 1, i);
        }
        int[] givenUp = {37, 74, 111, 148, 185, 198, 199, 200};
        int made = 0;
        for (int slot = 1; slot <= 201; slot++) {
            x.slot(1);
            boolean wishes = slot < 199 && (slot - 1) % 37 % 12 == 0 && (slot - 1) % 37 < 36 && slot != 198;
            made += wishes ? 1 : 0;
            due("wishes in slot " + slot, x.wishes(0), made);
            due("deed in slot " + slot, x.heard(0), wishes ? 's' : 'q');
            int lost = 0;
            for (int i = 0; i < 8; i++) {
                lost += x.fate(i) == 'l' ? 1 : 0;
                due("fate " + i + " in slot " + slot, x.fate(i), slot >= givenUp[i] ? 'l' : '-');
            }
            due("queue in slot " + slot, x.queue(0), 8 - lost);
        }
        due("in all", x.wishes(0), 16);
        due("spoken", x.spoken(0), 16);
        due("share", x.share(), 0.0f);
    }

    private static void wishesCountAnew() {
        part = "wishing for another frame";
        Radiohearth x = at(0, 63, 5);
        x.send(0, 1, 1);
        x.slot(3);
        x.send(0, 2, 2);
        x.slot(9);
        due("one at a time", x.wishes(0), 1);
        x.slot(1);
        due("12 slots later", x.wishes(0), 2);
        for (int i = 0; i < 40 && x.fate(0) == '-'; i++) {
            x.slot(1);
        }
        due("three for the first", x.wishes(0), 3);
        due("lost", x.fate(0), 'l');
        x.slot(1);
        due("one for the second", x.wishes(0), 4);
        x.slot(10);
        due("arrived", x.fate(1), 'a');
    }

    // Two of like strength: what both say alike adds up, the rest is 0.
    private static void collisions() {
        part = "collisions";
        Radiohearth x = at(0, 12, 24);
        x.send(0, 1, 1);
        x.send(2, 1, 1);
        x.slot(1);
        due("both speak", "" + x.heard(0) + x.heard(2), "ss");
        String one = spread(2 << 24 | 7 << 18 | 1 << 12);
        String two = spread(2 << 24 | 2 << 21 | 7 << 18 | 2 << 15 | 1 << 12);
        for (int i = 0; i < 88; i++) {
            int sum = 8 * sign(one, i) + 8 * sign(two, i);
            due("sample " + i, x.sample(1, i), sum);
        }
        x.setPower(2, 4);
        Radiohearth y = at(0, 12, 24);
        y.setPower(2, 4);
        y.send(0, 1, 1);
        y.send(2, 1, 1);
        y.slot(1);
        due("the louder one is understood", y.frame(1), 2 << 24 | 2 << 21 | 7 << 18 | 2 << 15 | 1 << 12);
        dueThrow("a speaker hears nothing", NONE, () -> y.sample(0, 0));
    }

    private static void ways() {
        part = "promises 17, 18";
        Radiohearth x = at(0, 5, 10);
        dueThrow("none", NONE, () -> x.wayOver(0, 1));
        dueThrow("none", NONE, () -> x.wayHops(0, 1));
        dueThrow("same", BAD, () -> x.wayOver(0, 0));
        dueThrow("same", BAD, () -> x.wayHops(2, 2));
        dueThrow("no such station", OUT, () -> x.wayOver(3, 3));
        dueThrow("no such station", OUT, () -> x.wayHops(-1, -1));
        dueThrow("no such goal", OUT, () -> x.wayOver(0, 3));
        dueThrow("no such goal", OUT, () -> x.wayHops(0, -1));
        x.send(0, 1, 1);
        x.slot(1);
        due("one that overhears a wish", x.wayOver(2, 0) * 10 + x.wayHops(2, 0), 1);
        due("and passes it on", x.queue(2), 1);
        dueThrow("its way only", NONE, () -> x.wayOver(2, 1));
        x.slot(1);
        dueThrow("ways to others are left", NONE, () -> x.wayOver(2, 1));
        due("the nearer way stays", x.wayOver(1, 0) * 10 + x.wayHops(1, 0), 1);
    }

    private static void flood() {
        part = "promise 19";
        Radiohearth x = at(0, 15, 30, 46, 45);
        due("next", x.hopsByFlood(0, 1), 1);
        due("over one", x.hopsByFlood(0, 2), 2);
        due("back", x.hopsByFlood(2, 0), 2);
        due("over all", x.hopsByFlood(0, 3), 4);
        x.move(4, 63);
        dueThrow("16 is too far", NONE, () -> x.hopsByFlood(0, 3));
        dueThrow("alone", NONE, () -> x.hopsByFlood(4, 0));
        x.move(4, 0);
        due("same place", x.hopsByFlood(4, 0), 1);
        dueThrow("same", BAD, () -> x.hopsByFlood(4, 4));
        dueThrow("no such station", OUT, () -> x.hopsByFlood(5, 5));
        dueThrow("no such goal", OUT, () -> x.hopsByFlood(0, 5));
        dueThrow("below", OUT, () -> x.hopsByFlood(-1, 0));
    }

    // The whitener begins 0000 1110 1111 0010 1100; so the wish 1000 0111 0000 1000 0000 .. becomes 1000 1001 1111 1010
    // 1100 .., coded 11 10 11 00 11 10 11 11 01 10 10 10 10 01 00 10 00 01 01 11 ..
    private static void samplesOfAFrame() {
        part = "promise 22";
        Radiohearth x = at(0, 63, 14);
        dueThrow("ahead of the first slot", NONE, () -> x.sample(2, 0));
        x.send(0, 2, 1);
        x.send(0, 1, 1);
        x.move(1, 15);
        x.move(2, 63);
        x.slot(1);
        due("understood", x.frame(1), 2 << 24 | 7 << 18 | 2 << 12);
        int[] first = {-2, 2, -2, 2};
        int[] second = {-2, -2, 2, 2};
        for (int i = 0; i < 4; i++) {
            due("sample " + i, x.sample(1, i), first[i]);
            due("sample " + (8 + i), x.sample(1, 8 + i), second[i]);
        }
        String coded = spread(2 << 24 | 7 << 18 | 2 << 12);
        for (int i = 0; i < 88; i++) {
            due("sample " + i, x.sample(1, i), 2 * sign(coded, i));
        }
        due("mended", x.mended(1), 0);
        dueThrow("sample 88", NONE, () -> x.sample(1, 88));
        dueThrow("sample -1", NONE, () -> x.sample(1, -1));
        dueThrow("the speaker", NONE, () -> x.sample(0, 0));
        dueThrow("one out of reach", NONE, () -> x.sample(2, 0));
        dueThrow("no frame there", NONE, () -> x.frame(2));
        dueThrow("nothing mended there", NONE, () -> x.mended(0));
        due("deeds", "" + x.heard(0) + x.heard(1) + x.heard(2), "suq");
        x.slot(1);
        dueThrow("gone with the next slot", NONE, () -> x.sample(0, 0));
    }

    private static void echoAndBounds() {
        part = "echo and bounds";
        for (int echo = -3; echo <= 3; echo++) {
            for (int place : new int[] {0, 1, 11, 13, 15}) {
                Radiohearth x = at(0, place);
                x.setPower(0, echo % 2 == 0 ? 3 : 1);
                x.setEcho(echo);
                x.send(0, 1, 1);
                x.slot(1);
                int loud = (echo % 2 == 0 ? 3 : 1) * (16 - place);
                String coded = spread(2 << 24 | 7 << 18 | 1 << 12);
                int ahead = 0;
                for (int i = 0; i < 88; i++) {
                    int clean = loud * sign(coded, i);
                    int bent = Math.abs(echo * ahead) / 4 * Integer.signum(echo * ahead);
                    due("sample " + i + " with echo " + echo, x.sample(1, i), clean + bent);
                    ahead = clean;
                }
            }
        }
        Radiohearth y = at(0, 0, 0);
        y.setPower(0, 4);
        y.setPower(1, 4);
        y.send(0, 2, 1);
        y.send(1, 2, 1);
        y.slot(1);
        String one = spread(2 << 24 | 7 << 18 | 2 << 12);
        String two = spread(2 << 24 | 1 << 21 | 7 << 18 | 1 << 15 | 2 << 12);
        for (int i = 0; i < 88; i++) {
            int sum = 64 * sign(one, i) + 64 * sign(two, i);
            due("held sample " + i, y.sample(2, i), Math.max(-127, Math.min(127, sum)));
        }
    }

    // The air's random numbers begin 16838, 5758, 10113, 17515: with level 10 the noise is 7, -6, 2, -9.
    private static void noiseDraws() {
        part = "noise";
        Radiohearth x = at(15, 0, 30);
        x.setPower(0, 4);
        x.setNoise(10);
        x.send(0, 1, 1);
        x.slot(1);
        int[] first = {-4 + 7, 4 - 6, -4 + 2, 4 - 9};
        for (int i = 0; i < 4; i++) {
            due("sample " + i, x.sample(1, i), first[i]);
        }
        int seed = 1;
        String coded = spread(2 << 24 | 7 << 18 | 1 << 12);
        for (int i = 0; i < 176; i++) {
            seed = 1103515245 * seed + 12345;
            int noise = (seed >> 16 & 32767) % 21 - 10;
            int hearer = i < 88 ? 1 : 2;
            due("sample " + i % 88 + " of " + hearer, x.sample(hearer, i % 88), 4 * sign(coded, i % 88) + noise);
        }
        Radiohearth y = at(15, 0);
        y.send(0, 1, 1);
        y.slot(2);
        y.setNoise(99);
        y.slot(1);
        int later = 1;
        String answer = spread(1 << 24 | 1 << 18 | 1 << 15 | 1);
        for (int i = 0; i < 3 * 88; i++) {
            later = 1103515245 * later + 12345;
            if (i >= 2 * 88) {
                int noise = (later >> 16 & 32767) % 199 - 99;
                due("quiet air draws too, " + i, y.sample(1, i % 88), 2 * sign(answer, i % 88) + noise);
            }
        }
    }

    private static void mended() {
        part = "promises 23, 24";
        int most = 0;
        for (int level = 4; level < 30; level++) {
            Radiohearth x = at(0, 10);
            x.setNoise(level);
            x.send(0, 1, 1);
            x.slot(1);
            int frame = 2 << 24 | 7 << 18 | 1 << 12;
            if (x.heard(1) == 'c') {
                dueThrow("wrong check", NONE, () -> x.frame(1));
                dueThrow("wrong check", NONE, () -> x.mended(1));
                due("nothing taken", x.queue(1), 0);
                due("heard all the same", x.sample(1, 0) >= -127, true);
                continue;
            }
            due("frame", x.frame(1), frame);
            String coded = spread(frame);
            int count = 0;
            for (int i = 0; i < 88; i++) {
                count += x.sample(1, i) * sign(coded, i) < 0 ? 1 : 0;
            }
            due("mended", x.mended(1), count);
            most = Math.max(most, count);
        }
        due("some are mended", most > 5, true);
    }

    private static void typeAndCode() {
        part = "promises 26, 27";
        Radiohearth x = new Radiohearth();
        dueThrow("'2'", BAD, () -> x.type('2'));
        dueThrow("'/'", BAD, () -> x.type('/'));
        dueThrow("(char) 0", BAD, () -> x.type((char) 0));
        dueThrow("(char) 1", BAD, () -> x.type((char) 1));
        for (int i = 1; i <= 10; i++) {
            due("type", x.type(i % 2 == 0 ? '0' : '1'), i);
        }
        dueThrow("the 11th", STATE, () -> x.type('0'));
        dueThrow("the 11th, and wrong", BAD, () -> x.type('x'));
        due("code", x.code(), 24);
        due("decode", x.decode(), 1024 + 0b1010101010);
        due("type anew", x.type('1'), 1);
        due("weights stand", x.decode(), 1024 + 0b1010101010);
        x.type('0');
        x.type('1');
        due("code", x.code(), 10);
        int[] coded = {1, 1, 1, 0, 0, 0, 1, 0, 1, 1};
        for (int i = 0; i < 10; i++) {
            due("weight " + i, x.weight(i), coded[i] == 0 ? 8 : -8);
        }
        due("sum", x.sum(), 80L);
        due("empty word", x.code(), 4);
        due("weight", x.weight(3), 8);
        due("decode", x.decode(), 1);
        due("by trying", x.decodeByTrying(), 1);
        due("sum", x.sum(), 32L);
    }

    private static void weights() {
        part = "promises 28, 29";
        Radiohearth x = new Radiohearth();
        dueThrow("none yet", OUT, () -> x.setWeight(0, 0));
        x.type('1');
        dueThrow("not coded yet", OUT, () -> x.weight(0));
        x.code();
        dueThrow("weight(6)", OUT, () -> x.weight(6));
        dueThrow("weight(-1)", OUT, () -> x.weight(-1));
        due("setWeight", x.setWeight(5, 99), -8);
        due("setWeight", x.setWeight(5, -99), 99);
        dueThrow("100", BAD, () -> x.setWeight(5, 100));
        dueThrow("-100", BAD, () -> x.setWeight(5, -100));
        dueThrow("no such weight", OUT, () -> x.setWeight(6, 100));
        dueThrow("no such weight", OUT, () -> x.setWeight(-1, 1));
        due("weight", x.weight(5), -99);
        x.type('1');
        x.type('1');
        x.code();
        x.code();
        dueThrow("fewer weights", OUT, () -> x.weight(4));
    }

    private static void set(Radiohearth x, int... weights) {
        for (int i = 0; i < weights.length; i++) {
            x.setWeight(i, weights[i]);
        }
    }

    private static void dueWord(Radiohearth x, int word, long sum) {
        due("decode", x.decode(), word);
        due("decodeByTrying", x.decodeByTrying(), word);
        due("sum", x.sum(), sum);
        due("isSound", x.isSound(), true);
    }

    // Coded, 1 is 11 10 11; 01 is 00 11 10 11; 10 is 11 10 11 00; 11 is 11 01 01 11.
    private static void decoding() {
        part = "promises 30, 31, 32";
        Radiohearth x = new Radiohearth();
        x.type('1');
        x.code();
        dueWord(x, 3, 48);
        set(x, 8, -8, 0, 5, 0, 0);
        dueWord(x, 2, 5);
        set(x, 7);
        dueWord(x, 3, 6);
        set(x, -99, -99, -99, -99, -99, -99);
        dueWord(x, 3, 396);
        x.type('1');
        x.type('1');
        x.code();
        dueWord(x, 7, 64);
        set(x, 0, 0, 0, 0, 0, 0, 0, 0);
        dueWord(x, 4, 0);
        set(x, 0, 0, -5, 0, -5, 0, 0, 0);
        dueWord(x, 5, 10);
        set(x, -1, 0, -5, 0, -5, 0, 0, 0);
        dueWord(x, 6, 11);
        for (int i = 0; i < 10; i++) {
            x.type('1');
        }
        x.code();
        dueWord(x, 2047, 192);
        for (int i = 0; i < 24; i++) {
            x.setWeight(i, 99);
        }
        dueWord(x, 1024, 24 * 99);
    }

    private static void figures() {
        part = "promises 33, 34, 35";
        Radiohearth x = at(0, 5, 63);
        x.send(0, 1, 1);
        x.send(2, 0, 1);
        x.send(2, 0, 2);
        due("none yet", x.share(), 0.0f);
        dueThrow("no mean", NONE, () -> x.meanSlots());
        x.slot(20);
        due("a third", x.share(), 1.0f / 3.0f);
        due("mean", x.meanSlots(), 4.0);
        x.send(0, 1, 1);
        x.slot(1);
        due("a half", x.share(), 0.5f);
        due("from when it was sent", x.meanSlots(), 2.5);
        x.slot(4);
        x.send(0, 1, 2);
        x.slot(1);
        due("a sum by three", x.meanSlots(), 6.0 / 3.0);
        due("sound", x.isSound(), true);
    }

    private static void nothingChanges() {
        part = "what throws changes nothing";
        Radiohearth x = at(0, 5);
        x.send(0, 1, 1);
        dueThrow("send", BAD, () -> x.send(0, 0, 1));
        dueThrow("slot", BAD, () -> x.slot(21));
        dueThrow("move", BAD, () -> x.move(1, 64));
        dueThrow("setPower", BAD, () -> x.setPower(0, 9));
        dueThrow("setNoise", BAD, () -> x.setNoise(100));
        dueThrow("setEcho", BAD, () -> x.setEcho(9));
        due("queue", x.queue(0), 1);
        due("next message", x.send(0, 1, 2), 1);
        due("slots", x.slot(1), 1);
        due("gain", x.gain(0, 1), 11);
        due("sample", x.sample(1, 0), -22);
    }

    private static void farNumbers() {
        part = "far numbers";
        Radiohearth x = at(0, 5);
        x.code();
        for (int far : new int[] {Integer.MIN_VALUE, Integer.MIN_VALUE + 1, -100, 1000, Integer.MAX_VALUE}) {
            dueThrow("addStation", BAD, () -> x.addStation(far, 1, 1));
            dueThrow("addStation", BAD, () -> x.addStation(1, far, 1));
            dueThrow("addStation", BAD, () -> x.addStation(1, 1, far));
            dueThrow("move", OUT, () -> x.move(far, far));
            dueThrow("move", BAD, () -> x.move(0, far));
            dueThrow("setPower", OUT, () -> x.setPower(far, far));
            dueThrow("setPower", BAD, () -> x.setPower(0, far));
            dueThrow("setNoise", BAD, () -> x.setNoise(far));
            dueThrow("setEcho", BAD, () -> x.setEcho(far));
            dueThrow("gain", OUT, () -> x.gain(far, 0));
            dueThrow("gain", OUT, () -> x.gain(0, far));
            dueThrow("send", OUT, () -> x.send(far, far, far));
            dueThrow("send", OUT, () -> x.send(0, far, far));
            dueThrow("send", BAD, () -> x.send(0, 1, far));
            dueThrow("slot", BAD, () -> x.slot(far));
            dueThrow("arrivalAt", NONE, () -> x.arrivalAt(0, far));
            dueThrow("wayOver", OUT, () -> x.wayOver(far, far));
            dueThrow("wayOver", OUT, () -> x.wayOver(0, far));
            dueThrow("wayHops", OUT, () -> x.wayHops(far, far));
            dueThrow("wayHops", OUT, () -> x.wayHops(0, far));
            dueThrow("hopsByFlood", OUT, () -> x.hopsByFlood(far, far));
            dueThrow("hopsByFlood", OUT, () -> x.hopsByFlood(0, far));
            dueThrow("sample", NONE, () -> x.sample(0, far));
            dueThrow("weight", OUT, () -> x.weight(far));
            dueThrow("setWeight", OUT, () -> x.setWeight(far, far));
            dueThrow("setWeight", BAD, () -> x.setWeight(0, far));
        }
        noSuchStation(x);
    }

    /** The samples of a frame for a speaker of power 1, as '+' and '-', in the order in which they are sent. */
    private static String spread(int frame) {
        StringBuilder bits = new StringBuilder();
        int check = 65535;
        for (int i = 25; i >= 0; i--) {
            int bit = frame >> i & 1;
            bits.append(bit);
            int high = check >> 15;
            check = check << 1 & 65535;
            check = high == bit ? check : check ^ 4129;
        }
        for (int i = 15; i >= 0; i--) {
            bits.append(check >> i & 1);
        }
        int register = 127;
        int[] word = new int[46];
        for (int i = 0; i < 42; i++) {
            int fresh = (register / 64 + register / 8) % 2;
            register = register * 2 % 128 + fresh;
            word[i + 2] = (bits.charAt(i) - '0' + fresh) % 2;
        }
        char[][] rows = new char[8][11];
        for (int i = 0; i < 88; i++) {
            int at = i / 2 + 2;
            int bit = (word[at] + word[at - 2] + (i % 2 == 0 ? word[at - 1] : 0)) % 2;
            rows[i / 11][i % 11] = bit == 0 ? '+' : '-';
        }
        StringBuilder sent = new StringBuilder();
        for (int column = 0; column < 11; column++) {
            for (int row = 0; row < 8; row++) {
                sent.append(rows[row][column]);
            }
        }
        return sent.toString();
    }

    private static int sign(String spread, int index) {
        return spread.charAt(index) == '+' ? 1 : -1;
    }
}
