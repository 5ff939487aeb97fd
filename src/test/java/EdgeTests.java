import java.util.function.Function;
import java.util.function.Supplier;

/**
 * The sentences of the promises that name a boundary: the least and greatest inputs that are taken, and each call that
 * is refused, with the exception that is due. A refused call must leave an object as one that was not asked: both are
 * looked at in all parts, at once, and when they have gone on.
 */
public final class EdgeTests {
    private static final int LEAST = Integer.MIN_VALUE;
    private static final int MOST = Integer.MAX_VALUE;

    // Makes the object that is asked next.
    private static Supplier<Radiohearth> state = EdgeTests::fresh;

    public static void main(String[] args) {
        newObject();
        addStation();
        move();
        setPower();
        setNoise();
        setEcho();
        gain();
        send();
        slot();
        fate();
        arrivedIn();
        arrivalAt();
        callsOfOneStation();
        heardAndFigures();
        ways();
        hopsByFlood();
        sample();
        frameAndMended();
        type();
        code();
        weight();
        setWeight();
        decode();
        share();
        meanSlots();
        isSound();
        calls512();
        Due.end("edges");
    }

    // ---- objects to ask

    private static Radiohearth fresh() {
        return new Radiohearth();
    }

    /** Four stations amid their slots, of which 0 to 2 hear each other; messages have arrived, are lost or neither. */
    private static Radiohearth busy() {
        Radiohearth x = new Radiohearth();
        x.addStation(3, 2, 7);
        x.addStation(12, 3, 999);
        x.addStation(20, 1, 1);
        x.addStation(63, 4, 500);
        x.setNoise(2);
        x.setEcho(-1);
        x.send(0, 1, 7);
        x.slot(20);
        x.send(1, 3, 8);
        x.slot(20);
        x.slot(17);
        x.send(0, 2, 9);
        x.send(2, 3, 10);
        x.slot(2);
        for (char bit : "10110".toCharArray()) {
            x.type(bit);
        }
        x.code();
        x.setWeight(2, -99);
        x.type('1');
        x.type('0');
        return x;
    }

    /** All that is limited is full: stations, messages of 0, slots, bits. */
    private static Radiohearth full() {
        Radiohearth x = new Radiohearth();
        for (int i = 0; i < 6; i++) {
            x.addStation(11 * i, 4, 100 * i + 1);
        }
        for (int i = 0; i < 16; i++) {
            x.send(0, 1 + i % 5, 15 * i);
        }
        for (int i = 0; i < 30; i++) {
            x.slot(20);
        }
        for (int k = 0; k < 2; k++) {
            for (int i = 0; i < 10; i++) {
                x.type(i % 3 == k ? '1' : '0');
            }
            if (k == 0) {
                x.code();
            }
        }
        return x;
    }

    private static Radiohearth slots(int slots) {
        Radiohearth x = Frames.at(0, 5);
        x.send(0, 1, 1);
        for (int i = 0; i < slots / 20; i++) {
            x.slot(20);
        }
        if (slots % 20 > 0) {
            x.slot(slots % 20);
        }
        return x;
    }

    // ---- looking at all parts

    private static String all(Radiohearth x) {
        StringBuilder text = new StringBuilder();
        for (int i = 0; i < 6; i++) {
            int s = i;
            add(text, () -> x.heard(s), () -> x.queue(s), () -> x.waitOf(s), () -> x.tries(s), () -> x.wishes(s));
            add(text, () -> x.spoken(s), () -> x.frame(s), () -> x.mended(s), () -> x.sample(s, 0));
            add(text, () -> x.sample(s, 87), () -> x.arrivals(s), () -> x.arrivalAt(s, 0), () -> x.arrivalAt(s, 1));
            for (int k = 0; k < 6; k++) {
                int goal = k;
                add(text, () -> x.wayOver(s, goal), () -> x.wayHops(s, goal));
            }
        }
        for (int i = 0; i < 18; i++) {
            int message = i;
            add(text, () -> x.fate(message), () -> x.arrivedIn(message));
        }
        add(text, () -> x.share(), () -> x.meanSlots(), () -> x.isSound(), () -> x.decode(), () -> x.sum());
        for (int i = 0; i <= 24; i++) {
            int index = i;
            add(text, () -> x.weight(index));
        }
        return text.toString();
    }

    /** What can be seen only by calls that change something. */
    private static String settings(Radiohearth x) {
        StringBuilder text = new StringBuilder();
        for (int i = 0; i < 6; i++) {
            int s = i;
            add(text, () -> x.move(s, 1), () -> x.setPower(s, 1));
        }
        add(text, () -> x.setNoise(0), () -> x.setEcho(0), () -> x.type('1'), () -> x.code());
        for (int i = 0; i <= 24; i++) {
            int index = i;
            add(text, () -> x.weight(index));
        }
        add(text, () -> x.addStation(1, 1, 1), () -> x.send(0, 1, 1), () -> x.send(1, 0, 1), () -> x.slot(1));
        return text.toString();
    }

    private static String later(Radiohearth x) {
        StringBuilder text = new StringBuilder();
        add(text, () -> x.send(1, 0, 1), () -> x.slot(13));
        return text + all(x);
    }

    @SafeVarargs
    private static void add(StringBuilder text, Supplier<Object>... calls) {
        for (Supplier<Object> call : calls) {
            text.append(Due.answerOf(call)).append(' ');
        }
    }

    // ---- asking

    private static void refused(String call, Class<?> due, Function<Radiohearth, Object> run) {
        Radiohearth asked = asked(call, due, run);
        Due.is(call + " changes nothing", all(asked), all(state.get()));
        Due.is(call + " changes no setting", settings(asked(call, due, run)), settings(state.get()));
        Due.is(call + " changes nothing later", later(asked(call, due, run)), later(state.get()));
    }

    private static Radiohearth asked(String call, Class<?> due, Function<Radiohearth, Object> run) {
        Radiohearth x = state.get();
        Due.thrown(call, due, () -> run.apply(x));
        return x;
    }

    private static void taken(String call, Object due, Function<Radiohearth, Object> run) {
        Radiohearth x = state.get();
        Due.is(call, Due.answerOf(() -> run.apply(x)), due);
    }

    // ---- the promises

    private static void newObject() {
        Due.by("Creates a quiet air without stations, and an empty word");
        state = EdgeTests::fresh;
        taken("setNoise", 0, x -> x.setNoise(1));
        taken("setEcho", 0, x -> x.setEcho(1));
        taken("addStation", 0, x -> x.addStation(0, 1, 1));
        taken("type", 1, x -> x.type('0'));
        taken("code", 4, x -> x.code());
        taken("slot", 1, x -> x.slot(1));
        refused("queue(0)", Due.OUT, x -> x.queue(0));
        refused("weight(0)", Due.OUT, x -> x.weight(0));
        refused("fate(0)", Due.OUT, x -> x.fate(0));
    }

    private static void addStation() {
        Due.by("addStation: if a number is out of range");
        state = EdgeTests::busy;
        for (int place : new int[] {LEAST, -1, 64, MOST}) {
            refused("place " + place, Due.BAD, x -> x.addStation(place, 1, 1));
        }
        for (int power : new int[] {LEAST, -1, 0, 5, MOST}) {
            refused("power " + power, Due.BAD, x -> x.addStation(0, power, 1));
        }
        for (int seed : new int[] {LEAST, -1, 0, 1000, MOST}) {
            refused("seed " + seed, Due.BAD, x -> x.addStation(0, 1, seed));
        }
        taken("the least", 4, x -> x.addStation(0, 1, 1));
        taken("the greatest", 4, x -> x.addStation(63, 4, 999));
        Due.by("addStation: if there are 6 stations");
        state = EdgeTests::full;
        refused("the seventh", Due.FULL, x -> x.addStation(0, 1, 1));
        Due.by("addStation: the exception that is listed first");
        refused("place 64", Due.BAD, x -> x.addStation(64, 1, 1));
        refused("power 0", Due.BAD, x -> x.addStation(0, 0, 1));
        refused("seed 1000", Due.BAD, x -> x.addStation(0, 1, 1000));
    }

    private static void move() {
        Due.by("move: if there is no such station");
        state = EdgeTests::fresh;
        refused("none at all", Due.OUT, x -> x.move(0, 0));
        state = EdgeTests::busy;
        for (int station : new int[] {LEAST, -1, 4, 6, MOST}) {
            refused("station " + station, Due.OUT, x -> x.move(station, 1));
            refused("and no such place", Due.OUT, x -> x.move(station, 64));
        }
        Due.by("move: if there is no such place");
        for (int place : new int[] {LEAST, -1, 64, MOST}) {
            refused("place " + place, Due.BAD, x -> x.move(3, place));
        }
        Due.by("move: returns the place before");
        taken("the least", 3, x -> x.move(0, 0));
        taken("the greatest", 63, x -> x.move(3, 63));
        taken("again", 0, x -> x.move(3, 0) * 0 + x.move(3, 63));
    }

    private static void setPower() {
        Due.by("setPower: if there is no such station");
        state = EdgeTests::fresh;
        refused("none at all", Due.OUT, x -> x.setPower(0, 1));
        state = EdgeTests::busy;
        for (int station : new int[] {LEAST, -1, 4, 6, MOST}) {
            refused("station " + station, Due.OUT, x -> x.setPower(station, 1));
            refused("and out of range", Due.OUT, x -> x.setPower(station, 0));
        }
        Due.by("setPower: if it is out of range");
        for (int power : new int[] {LEAST, -1, 0, 5, MOST}) {
            refused("power " + power, Due.BAD, x -> x.setPower(0, power));
        }
        Due.by("setPower: returns the power before");
        taken("the least", 2, x -> x.setPower(0, 1));
        taken("the greatest", 4, x -> x.setPower(3, 4));
        taken("again", 1, x -> x.setPower(3, 1) * 0 + x.setPower(3, 4));
    }

    private static void setNoise() {
        Due.by("setNoise: if it is out of range");
        state = EdgeTests::busy;
        for (int level : new int[] {LEAST, -1, 100, MOST}) {
            refused("level " + level, Due.BAD, x -> x.setNoise(level));
        }
        Due.by("setNoise: returns the level before, 0 at first");
        taken("the least", 2, x -> x.setNoise(0));
        taken("the greatest", 2, x -> x.setNoise(99));
        taken("again", 99, x -> x.setNoise(99) * 0 + x.setNoise(0));
        state = EdgeTests::fresh;
        taken("at first", 0, x -> x.setNoise(99));
    }

    private static void setEcho() {
        Due.by("setEcho: if it is out of range");
        state = EdgeTests::busy;
        for (int echo : new int[] {LEAST, -4, 4, MOST}) {
            refused("echo " + echo, Due.BAD, x -> x.setEcho(echo));
        }
        Due.by("setEcho: returns the echo before, 0 at first");
        taken("the least", -1, x -> x.setEcho(-3));
        taken("the greatest", -1, x -> x.setEcho(3));
        taken("again", -3, x -> x.setEcho(-3) * 0 + x.setEcho(3));
        state = EdgeTests::fresh;
        taken("at first", 0, x -> x.setEcho(-3));
    }

    private static void gain() {
        Due.by("gain: if there is no such station, for either");
        state = EdgeTests::fresh;
        refused("none at all", Due.OUT, x -> x.gain(0, 0));
        state = EdgeTests::busy;
        for (int station : new int[] {LEAST, -1, 4, 6, MOST}) {
            refused("station " + station, Due.OUT, x -> x.gain(station, 0));
            refused("other " + station, Due.OUT, x -> x.gain(0, station));
            refused("both " + station, Due.OUT, x -> x.gain(station, station));
        }
        Due.by("gain: another station, or the same one");
        taken("the same one", 16, x -> x.gain(3, 3));
        taken("another one", 0, x -> x.gain(0, 3));
        state = EdgeTests::full;
        taken("the last ones", 5, x -> x.gain(5, 4));
    }

    private static void send() {
        Due.by("send: if there is no such station, for either");
        state = EdgeTests::fresh;
        refused("none at all", Due.OUT, x -> x.send(0, 1, 1));
        state = EdgeTests::busy;
        for (int station : new int[] {LEAST, -1, 4, 6, 7, MOST}) {
            refused("station " + station, Due.OUT, x -> x.send(station, 0, 1));
            refused("goal " + station, Due.OUT, x -> x.send(0, station, 1));
            refused("both, and out of range", Due.OUT, x -> x.send(station, station, 256));
        }
        Due.by("send: if both are the same, or the value is out of range");
        refused("the same", Due.BAD, x -> x.send(3, 3, 1));
        for (int value : new int[] {LEAST, -1, 256, MOST}) {
            refused("value " + value, Due.BAD, x -> x.send(0, 1, value));
        }
        taken("the least", 4, x -> x.send(0, 3, 0));
        taken("the greatest", 4, x -> x.send(3, 0, 255));
        sendWhenFull();
    }

    private static void sendWhenFull() {
        Due.by("send: if the station has sent 16 messages");
        state = EdgeTests::full;
        refused("the 17th", Due.FULL, x -> x.send(0, 1, 1));
        taken("another station's", 16, x -> x.send(5, 0, 1));
        Due.by("send: the exception that is listed first");
        refused("to itself", Due.BAD, x -> x.send(0, 0, 1));
        refused("value -1", Due.BAD, x -> x.send(0, 1, -1));
        refused("value 256", Due.BAD, x -> x.send(0, 1, 256));
        refused("no such goal", Due.OUT, x -> x.send(0, 6, 1));
        Due.by("send: its number, over all stations");
        Radiohearth x = Frames.at(0, FAR_PLACE, 30);
        for (int i = 0; i < 16; i++) {
            Due.is("message", x.send(i % 2 * 2, 1, i), i);
        }
        for (int i = 16; i < 24; i++) {
            Due.is("message", x.send(0, 1, i), i);
        }
        Due.thrown("the 17th of 0", Due.FULL, () -> x.send(0, 1, 1));
        Due.is("the 9th of 2", x.send(2, 1, 1), 24);
    }

    private static final int FAR_PLACE = 63;

    private static void slot() {
        Due.by("slot: if the number is out of range");
        state = EdgeTests::busy;
        for (int many : new int[] {LEAST, -1, 0, 21, 600, MOST}) {
            refused("slot(" + many + ")", Due.BAD, x -> x.slot(many));
        }
        taken("the least", 60, x -> x.slot(1));
        taken("the greatest", 79, x -> x.slot(20));
        Due.by("slot: or there would be more than 600");
        state = () -> slots(599);
        refused("601 slots", Due.BAD, x -> x.slot(2));
        taken("600 slots", 600, x -> x.slot(1));
        state = () -> slots(580);
        taken("600 slots at once", 600, x -> x.slot(20));
        state = () -> slots(581);
        refused("601 slots at once", Due.BAD, x -> x.slot(20));
        taken("600 slots", 600, x -> x.slot(19));
        state = () -> slots(600);
        refused("one more", Due.BAD, x -> x.slot(1));
        refused("none", Due.BAD, x -> x.slot(0));
        refused("20 more", Due.BAD, x -> x.slot(20));
    }

    private static void fate() {
        Due.by("fate: if there is no such message");
        state = EdgeTests::fresh;
        refused("none at all", Due.OUT, x -> x.fate(0));
        state = EdgeTests::busy;
        for (int message : new int[] {LEAST, -1, 4, MOST}) {
            refused("message " + message, Due.OUT, x -> x.fate(message));
        }
        Due.by("fate: 'a' it has arrived, 'l' it is lost, '-' neither");
        taken("the first", 'a', x -> x.fate(0));
        taken("lost", 'l', x -> x.fate(1));
        taken("neither", '-', x -> x.fate(2));
        taken("the last", '-', x -> x.fate(3));
        state = EdgeTests::full;
        refused("behind the 16th", Due.OUT, x -> x.fate(16));
    }

    private static void arrivedIn() {
        Due.by("arrivedIn: if there is no such message");
        state = EdgeTests::fresh;
        refused("none at all", Due.OUT, x -> x.arrivedIn(0));
        state = EdgeTests::busy;
        for (int message : new int[] {LEAST, -1, 4, MOST}) {
            refused("message " + message, Due.OUT, x -> x.arrivedIn(message));
        }
        Due.by("arrivedIn: if it has not arrived");
        refused("lost", Due.NONE, x -> x.arrivedIn(1));
        refused("neither", Due.NONE, x -> x.arrivedIn(2));
        Due.by("arrivedIn: the number of the slot, from 1 on");
        taken("the fourth slot", 4, x -> x.arrivedIn(0));
        Radiohearth soon = Frames.at(0, 5, FAR_PLACE);
        soon.send(1, 0, 1);
        soon.slot(5);
        soon.send(1, 0, 1);
        soon.slot(1);
        Due.is("the slot in which it was sent is done", soon.arrivedIn(1), 6);
        Due.is("one slot", soon.meanSlots(), (4 + 1) / 2.0);
    }

    private static void arrivalAt() {
        Due.by("arrivalAt: if there is no such station");
        state = EdgeTests::fresh;
        refused("none at all", Due.OUT, x -> x.arrivalAt(0, 0));
        state = EdgeTests::busy;
        for (int station : new int[] {LEAST, -1, 4, 6, MOST}) {
            refused("station " + station, Due.OUT, x -> x.arrivalAt(station, 0));
            refused("and no such message", Due.OUT, x -> x.arrivalAt(station, -1));
        }
        Due.by("arrivalAt: if there is no such message");
        for (int index : new int[] {LEAST, -1, 1, MOST}) {
            refused("index " + index, Due.NONE, x -> x.arrivalAt(1, index));
        }
        refused("none there", Due.NONE, x -> x.arrivalAt(3, 0));
        Due.by("arrivalAt: the value, in their order");
        taken("the first", 7, x -> x.arrivalAt(1, 0));
        Radiohearth x = Frames.at(0, 5);
        for (int i = 0; i < 16; i++) {
            x.send(0, 1, 255 - 17 * i);
        }
        x.slot(20);
        x.slot(20);
        Due.is("16", x.arrivals(1), 16);
        for (int i = 0; i < 16; i++) {
            Due.is("value " + i, x.arrivalAt(1, i), 255 - 17 * i);
        }
        Due.thrown("behind the last", Due.NONE, () -> x.arrivalAt(1, 16));
    }

    private static void callsOfOneStation() {
        Due.by("if there is no such station");
        state = EdgeTests::fresh;
        dueNoStation(0);
        state = EdgeTests::busy;
        for (int station : new int[] {LEAST, -1, 4, 6, 7, MOST}) {
            dueNoStation(station);
        }
        state = EdgeTests::full;
        dueNoStation(6);
        for (int i = 0; i < 6; i++) {
            int station = i;
            taken("heard", 'q', x -> x.heard(station));
            taken("queue", 0, x -> x.queue(station));
            taken("waitOf", 0, x -> x.waitOf(station));
            taken("tries", 0, x -> x.tries(station));
        }
    }

    private static void dueNoStation(int station) {
        refused("arrivals(" + station + ")", Due.OUT, x -> x.arrivals(station));
        refused("queue(" + station + ")", Due.OUT, x -> x.queue(station));
        refused("waitOf(" + station + ")", Due.OUT, x -> x.waitOf(station));
        refused("tries(" + station + ")", Due.OUT, x -> x.tries(station));
        refused("wishes(" + station + ")", Due.OUT, x -> x.wishes(station));
        refused("heard(" + station + ")", Due.OUT, x -> x.heard(station));
        refused("spoken(" + station + ")", Due.OUT, x -> x.spoken(station));
        refused("frame(" + station + ")", Due.OUT, x -> x.frame(station));
        refused("mended(" + station + ")", Due.OUT, x -> x.mended(station));
    }

    private static void heardAndFigures() {
        Due.by("heard: 'q' ahead of the first slot; 's', 'q', 'c', 'u' in the last slot");
        Radiohearth x = Frames.at(0, 15, FAR_PLACE);
        Due.is("ahead of the first slot", Frames.deeds(x), "qqq");
        x.send(0, 1, 1);
        Due.is("still", Frames.deeds(x), "qqq");
        x.slot(1);
        Due.is("spoke, understood, nothing", Frames.deeds(x), "suq");
        Due.is("a new one", x.addStation(5, 1, 1), 3);
        Due.is("it did nothing", x.heard(3), 'q');
        Due.thrown("it heard nothing", Due.NONE, () -> x.sample(3, 0));
        x.setNoise(99);
        x.slot(1);
        Due.is("a wrong check", x.heard(0), 'c');
        Due.by("queue, waitOf, tries, wishes, spoken, arrivals: 0 of a new station");
        Radiohearth y = Frames.at(0);
        Due.is("all", counts(y), "000000");
        y.slot(20);
        Due.is("alone", counts(y), "000000");
        Due.by("spoken: how many frames");
        Radiohearth z = Frames.friends(0, 5);
        Due.is("a wish, an answer, data", z.spoken(0), 3);
        Due.is("a way, an answer", z.spoken(1), 2);
        z.move(1, FAR_PLACE);
        z.send(0, 1, 1);
        z.slot(3);
        Due.is("the same data twice", z.spoken(0), 5);
    }

    private static String counts(Radiohearth x) {
        return "" + x.queue(0) + x.waitOf(0) + x.tries(0) + x.wishes(0) + x.spoken(0) + x.arrivals(0);
    }

    private static void ways() {
        state = EdgeTests::fresh;
        Due.by("wayOver, wayHops: if there is no such station, for either");
        refused("wayOver of none", Due.OUT, x -> x.wayOver(0, 0));
        refused("wayHops of none", Due.OUT, x -> x.wayHops(0, 0));
        state = EdgeTests::busy;
        for (int station : new int[] {LEAST, -1, 4, 6, 7, MOST}) {
            refused("wayOver of " + station, Due.OUT, x -> x.wayOver(station, 0));
            refused("wayOver to " + station, Due.OUT, x -> x.wayOver(0, station));
            refused("wayOver of both", Due.OUT, x -> x.wayOver(station, station));
            refused("wayHops of " + station, Due.OUT, x -> x.wayHops(station, 0));
            refused("wayHops to " + station, Due.OUT, x -> x.wayHops(0, station));
            refused("wayHops of both", Due.OUT, x -> x.wayHops(station, station));
        }
        Due.by("wayOver, wayHops: if both are the same");
        for (int station = 0; station < 4; station++) {
            int same = station;
            refused("wayOver " + same, Due.BAD, x -> x.wayOver(same, same));
            refused("wayHops " + same, Due.BAD, x -> x.wayHops(same, same));
        }
        Due.by("wayOver, wayHops: if it has no such way");
        refused("wayOver", Due.NONE, x -> x.wayOver(0, 3));
        refused("wayHops", Due.NONE, x -> x.wayHops(0, 3));
        refused("wayOver of a station alone", Due.NONE, x -> x.wayOver(3, 0));
        refused("wayHops of a station alone", Due.NONE, x -> x.wayHops(3, 0));
        taken("wayOver", 1, x -> x.wayOver(0, 1));
        taken("wayHops", 1, x -> x.wayHops(0, 1));
    }

    private static void hopsByFlood() {
        Due.by("hopsByFlood: if there is no such station, for either");
        state = EdgeTests::fresh;
        refused("none at all", Due.OUT, x -> x.hopsByFlood(0, 0));
        state = EdgeTests::busy;
        for (int station : new int[] {LEAST, -1, 4, 6, 7, MOST}) {
            refused("of " + station, Due.OUT, x -> x.hopsByFlood(station, 0));
            refused("to " + station, Due.OUT, x -> x.hopsByFlood(0, station));
            refused("both " + station, Due.OUT, x -> x.hopsByFlood(station, station));
        }
        Due.by("hopsByFlood: if both are the same");
        refused("the first", Due.BAD, x -> x.hopsByFlood(0, 0));
        refused("one alone", Due.BAD, x -> x.hopsByFlood(3, 3));
        Due.by("hopsByFlood: if there is no such way");
        refused("to one alone", Due.NONE, x -> x.hopsByFlood(0, 3));
        refused("of one alone", Due.NONE, x -> x.hopsByFlood(3, 0));
        Due.by("hopsByFlood: over stations that come to one another with a gain greater than 0");
        Radiohearth x = Frames.at(0, 12, 24, 36, 48, 63);
        for (int i = 1; i < 6; i++) {
            Due.is("hops to " + i, x.hopsByFlood(0, i), i);
            Due.is("hops from " + i, x.hopsByFlood(i, 0), i);
        }
        x.move(4, 47);
        Due.thrown("a gain of 0", Due.NONE, () -> x.hopsByFlood(0, 5));
        Due.is("ahead of it", x.hopsByFlood(0, 4), 4);
        x.move(4, 0);
        Due.is("at the same place", x.hopsByFlood(4, 0), 1);
        Due.is("around", x.hopsByFlood(4, 3), 3);
        Due.by("hopsByFlood: the least number of hops");
        Radiohearth y = Frames.at(0, 15, 14, 13, 29, 28);
        Due.is("not over more than it takes", y.hopsByFlood(0, 4), 2);
        Due.is("over the last one", y.hopsByFlood(3, 4), 2);
        Due.is("at once", y.hopsByFlood(3, 5), 1);
    }

    private static void sample() {
        Due.by("sample: if there is no such station");
        state = EdgeTests::fresh;
        refused("none at all", Due.OUT, x -> x.sample(0, 0));
        state = () -> Frames.friends(0, 5, FAR_PLACE);
        for (int station : new int[] {LEAST, -1, 3, 6, MOST}) {
            refused("station " + station, Due.OUT, x -> x.sample(station, 0));
            refused("and no such index", Due.OUT, x -> x.sample(station, 88));
        }
        Due.by("sample: if it heard none, or there is no such index");
        for (int index : new int[] {LEAST, -1, 88, MOST}) {
            refused("index " + index, Due.NONE, x -> x.sample(0, index));
        }
        refused("it spoke", Due.NONE, x -> x.sample(1, 0));
        refused("nothing came to it", Due.NONE, x -> x.sample(2, 87));
        Due.by("sample: the index, from 0 to 87");
        String answer = Frames.spread(Frames.frame(Frames.ANSWER, 1, 0, 0, 1, 0, 0));
        taken("the first", 22 * Frames.sign(answer, 0), x -> x.sample(0, 0));
        taken("the last", 22 * Frames.sign(answer, 87), x -> x.sample(0, 87));
        state = () -> Frames.at(0, 5);
        refused("ahead of the first slot", Due.NONE, x -> x.sample(0, 0));
        Due.by("sample: that a station heard in the last slot");
        state = () -> slots(6);
        refused("nothing was spoken then", Due.NONE, x -> x.sample(0, 0));
    }

    private static void frameAndMended() {
        Due.by("frame, mended: if it understood none");
        state = () -> Frames.at(0, 5);
        dueNoFrame("ahead of the first slot", 0);
        state = () -> Frames.friends(0, 5, FAR_PLACE);
        dueNoFrame("it spoke", 1);
        dueNoFrame("nothing came to it", 2);
        state = () -> slots(6);
        dueNoFrame("nothing in the last slot", 0);
        state = EdgeTests::inNoise;
        dueNoFrame("a wrong check", 1);
        Due.by("mended: of those that are not 0, had another sign");
        state = () -> Frames.friends(0, 5, FAR_PLACE);
        taken("none", 0, x -> x.mended(0));
        taken("the frame", Frames.frame(Frames.ANSWER, 1, 0, 0, 1, 0, 0), x -> x.frame(0));
        mendedInNoise();
        mendedUnderALouderOne();
    }

    private static void mendedInNoise() {
        Due.by("mended: how many samples of this frame .. had another sign than the coded frame tells");
        String sent = Frames.spread(Frames.wish(0, 0, 1, 0, 0));
        boolean firstUnlike = false;
        boolean lastUnlike = false;
        for (int level = 5; level < 60; level++) {
            Radiohearth x = Frames.at(0, 4);
            x.setNoise(level);
            x.send(0, 1, 1);
            x.slot(1);
            if (x.heard(1) == 'u') {
                int unlike = 0;
                for (int i = 0; i < 88; i++) {
                    unlike += x.sample(1, i) * Frames.sign(sent, i) < 0 ? 1 : 0;
                }
                Due.is("mended at level " + level, x.mended(1), unlike);
                firstUnlike |= x.sample(1, 0) * Frames.sign(sent, 0) < 0;
                lastUnlike |= x.sample(1, 87) * Frames.sign(sent, 87) < 0;
            }
        }
        Due.is("the first and the last one, too", firstUnlike && lastUnlike, true);
    }

    // The signs are those of the louder one, whoever of them has the greater number.
    private static void mendedUnderALouderOne() {
        for (int louder = 0; louder < 2; louder++) {
            Radiohearth x = Frames.at(0, 0, 0);
            x.setPower(louder, 3);
            x.setPower(1 - louder, 1);
            x.send(0, 2, 1);
            x.send(1, 2, 1);
            x.slot(1);
            Due.is("the louder one", x.frame(2), Frames.wish(louder, louder, 2, 0, 0));
            Due.is("none is mended", x.mended(2), 0);
        }
    }

    private static Radiohearth inNoise() {
        Radiohearth x = Frames.at(0, 15);
        x.setNoise(99);
        x.send(0, 1, 1);
        x.slot(1);
        return x;
    }

    private static void dueNoFrame(String what, int station) {
        refused("frame: " + what, Due.NONE, x -> x.frame(station));
        refused("mended: " + what, Due.NONE, x -> x.mended(station));
    }

    private static void type() {
        Due.by("type: if it is neither '0' nor '1'");
        state = EdgeTests::busy;
        for (char bit : new char[] {0, 1, '/', '2', 'O', 'l', ' ', (char) ('0' + 256), 65535}) {
            refused("type of " + (int) bit, Due.BAD, x -> x.type(bit));
        }
        Due.by("type: returns the length of the word");
        taken("0", 3, x -> x.type('0'));
        taken("1", 3, x -> x.type('1'));
        Due.by("type: if the word has 10 bits");
        state = EdgeTests::full;
        refused("the 11th", Due.FULL, x -> x.type('0'));
        refused("the 11th", Due.FULL, x -> x.type('1'));
        Due.by("type: the exception that is listed first");
        refused("the 11th, and wrong", Due.BAD, x -> x.type('2'));
        Radiohearth x = new Radiohearth();
        for (int i = 1; i <= 10; i++) {
            Due.is("length", x.type('0'), i);
        }
        Due.is("code", x.code(), 24);
        Due.is("an empty word again", x.type('1'), 1);
    }

    private static void code() {
        Due.by("code: the typed word, which is empty then");
        state = EdgeTests::fresh;
        taken("nothing", 4, x -> x.code());
        taken("nothing again", 4, x -> x.code() * 0 + x.code());
        state = EdgeTests::full;
        taken("10 bits", 24, x -> x.code());
        taken("then nothing", 4, x -> x.code() * 0 + x.code());
        taken("then a first bit", 1, x -> x.code() * 0 + x.type('0'));
        Due.by("code: its weights are 8 for a bit 0 and -8 for a bit 1, in place of other weights");
        Radiohearth x = busy();
        Due.is("two bits", x.code(), 8);
        int[] due = {-8, -8, -8, 8, -8, -8, 8, 8};
        for (int i = 0; i < 8; i++) {
            Due.is("weight " + i, x.weight(i), due[i]);
        }
        Due.thrown("weight 8", Due.OUT, () -> x.weight(8));
        Due.is("decode", x.decode(), 0b110);
    }

    private static void weight() {
        Due.by("weight: if there is no such weight");
        state = EdgeTests::fresh;
        refused("none at all", Due.OUT, x -> x.weight(0));
        state = () -> typed("1");
        refused("typed, not coded", Due.OUT, x -> x.weight(0));
        state = EdgeTests::busy;
        for (int index : new int[] {LEAST, -1, 14, 24, MOST}) {
            refused("weight(" + index + ")", Due.OUT, x -> x.weight(index));
        }
        taken("the first", -8, x -> x.weight(0));
        taken("one that was set", -99, x -> x.weight(2));
        taken("the last", 8, x -> x.weight(13));
        state = EdgeTests::full;
        refused("weight(24)", Due.OUT, x -> x.weight(24));
        taken("the last of 10 bits", -8, x -> x.weight(23));
    }

    private static Radiohearth typed(String bits) {
        Radiohearth x = new Radiohearth();
        for (char bit : bits.toCharArray()) {
            x.type(bit);
        }
        return x;
    }

    private static void setWeight() {
        Due.by("setWeight: if there is no such weight");
        state = EdgeTests::fresh;
        refused("none at all", Due.OUT, x -> x.setWeight(0, 0));
        state = EdgeTests::busy;
        for (int index : new int[] {LEAST, -1, 14, 24, MOST}) {
            refused("index " + index, Due.OUT, x -> x.setWeight(index, 1));
            refused("and out of range", Due.OUT, x -> x.setWeight(index, 100));
        }
        Due.by("setWeight: if it is out of range");
        for (int weight : new int[] {LEAST, -100, 100, MOST}) {
            refused("weight " + weight, Due.BAD, x -> x.setWeight(2, weight));
        }
        Due.by("setWeight: returns the weight before");
        taken("the least", -8, x -> x.setWeight(0, -99));
        taken("the greatest", 8, x -> x.setWeight(13, 99));
        taken("again", 99, x -> x.setWeight(2, 99) * 0 + x.setWeight(2, 0));
        taken("0", 0, x -> x.setWeight(2, 0) * 0 + x.setWeight(2, 5));
    }

    private static void decode() {
        Due.by("decode, decodeByTrying, sum: if there are no weights");
        state = EdgeTests::fresh;
        refused("decode", Due.NONE, x -> x.decode());
        refused("decodeByTrying", Due.NONE, x -> x.decodeByTrying());
        refused("sum", Due.NONE, x -> x.sum());
        state = () -> typed("1111111111");
        refused("decode, typed only", Due.NONE, x -> x.decode());
        refused("decodeByTrying, typed only", Due.NONE, x -> x.decodeByTrying());
        refused("sum, typed only", Due.NONE, x -> x.sum());
        Due.by("decode: the number that its bits tell, plus 2 to the power of its length");
        Radiohearth x = new Radiohearth();
        x.code();
        Due.is("an empty word", x.decode() + " " + x.decodeByTrying() + " " + x.sum(), "1 1 32");
        for (int i = 0; i < 4; i++) {
            x.setWeight(i, -99);
        }
        String against = x.decode() + " " + x.decodeByTrying() + " " + x.sum();
        Due.is("an empty word, against all weights", against, "1 1 -396");
        Radiohearth y = typed("1111111111");
        y.code();
        Due.is("10 bits", y.decode() + " " + y.decodeByTrying() + " " + y.sum(), "2047 2047 192");
        Radiohearth z = typed("0000000000");
        z.code();
        Due.is("10 bits 0", z.decode() + " " + z.decodeByTrying() + " " + z.sum(), "1024 1024 192");
        Radiohearth first = typed("100");
        first.code();
        Due.is("the first one being worth most", first.decode(), 8 + 4);
        Due.is("it stays", first.decode() + first.decodeByTrying(), 24);
        decodeShorterWords();
    }

    private static void decodeShorterWords() {
        Due.by("of the length of the weights, in place of other weights");
        Radiohearth x = new Radiohearth();
        for (int length = 10; length >= 0; length--) {
            for (int i = 0; i < length; i++) {
                x.type('1');
            }
            Due.is("code", x.code(), 2 * length + 4);
            Due.is("sum ahead of decode", x.sum(), 16L * length + 32);
            Due.is("decode", x.decode(), (2 << length) - 1);
            Due.is("decodeByTrying", x.decodeByTrying(), (2 << length) - 1);
        }
        x.setWeight(0, -99);
        Due.is("sum right behind a new weight", x.sum(), 24L - 99L);
    }

    private static void share() {
        Due.by("share: if there are none");
        state = EdgeTests::fresh;
        refused("none", Due.NONE, x -> x.share());
        state = () -> Frames.at(0, 5);
        refused("stations only", Due.NONE, x -> x.share());
        Due.by("share: their number divided by that of all, both converted to float");
        Radiohearth x = Frames.at(0, 5, FAR_PLACE);
        x.send(2, 0, 1);
        Due.is("none of 1", x.share(), 0.0f);
        x.send(2, 0, 2);
        x.send(0, 1, 3);
        x.slot(4);
        Due.is("1 of 3", x.share(), 1.0f / 3.0f);
        x.send(0, 1, 4);
        x.slot(2);
        Due.is("2 of 4", x.share(), 0.5f);
        x.send(2, 0, 5);
        x.slot(1);
        Due.is("2 of 5", x.share(), 0.4f);
        Radiohearth all = Frames.friends(0, 5);
        Due.is("all", all.share(), 1.0f);
    }

    private static void meanSlots() {
        Due.by("meanSlots: if none has arrived");
        state = EdgeTests::fresh;
        refused("no messages", Due.NONE, x -> x.meanSlots());
        state = () -> {
            Radiohearth x = Frames.at(0, FAR_PLACE);
            x.send(0, 1, 1);
            return x;
        };
        refused("one on its way", Due.NONE, x -> x.meanSlots());
        state = () -> {
            Radiohearth x = Frames.at(0, FAR_PLACE);
            x.send(0, 1, 1);
            x.slot(20);
            x.slot(17);
            return x;
        };
        refused("one lost", Due.NONE, x -> x.meanSlots());
        Due.by("meanSlots: the slot in which it arrived, less the number of slots that had passed when it was sent");
        Radiohearth x = Frames.at(0, 5);
        x.slot(10);
        x.send(0, 1, 1);
        x.send(0, 1, 1);
        x.send(0, 1, 1);
        x.slot(4);
        Due.is("one", x.meanSlots(), 4.0);
        x.slot(2);
        Due.is("two", x.meanSlots(), 5.0);
        x.slot(2);
        Due.is("three", x.meanSlots(), 6.0);
        x.send(0, 1, 1);
        x.slot(2);
        Due.is("four", x.meanSlots(), (4 + 6 + 8 + 2) / 4.0);
        Due.is("in slot", x.arrivedIn(3), 20);
        x.send(0, 1, 1);
        x.slot(1);
        Due.is("five arrive, the last one in 2", x.meanSlots(), 20 / 4.0);
        x.slot(1);
        Due.is("not a whole number", x.meanSlots(), 22 / 5.0);
    }

    private static void isSound() {
        Due.by("isSound: as many messages have arrived as stations tell, none twice, and the word is decoded alike");
        state = EdgeTests::fresh;
        taken("new", true, x -> x.isSound());
        state = EdgeTests::busy;
        taken("busy", true, x -> x.isSound());
        state = EdgeTests::full;
        taken("full", true, x -> x.isSound());
    }

    // 6 + 96 + 1 + 30 + 379 = 512 calls.
    private static void calls512() {
        Due.by("An object is used for at most 512 calls");
        Radiohearth x = new Radiohearth();
        for (int i = 0; i < 6; i++) {
            x.addStation(12 * i, 4 - i % 4, 63 * i + 10);
        }
        x.setNoise(2);
        for (int i = 0; i < 96; i++) {
            Due.is("send", x.send(i % 6, (i % 6 + 1 + i / 6 % 5) % 6, i), i);
            if (i % 4 == 3) {
                Due.is("slot", x.slot(20), 5 * i + 5);
            }
        }
        for (int i = 25; i <= 30; i++) {
            Due.is("slot", x.slot(20), 20 * i);
        }
        int arrived = 0;
        int told = 0;
        for (int i = 0; i < 96; i++) {
            arrived += x.fate(i) == 'a' ? 1 : 0;
        }
        for (int i = 0; i < 6; i++) {
            told += x.arrivals(i);
        }
        for (int i = 0; i < 276; i++) {
            Due.is("isSound", x.isSound(), true);
        }
        Due.is("as many as stations tell", told, arrived);
        Due.is("the 512th call", x.share(), arrived / 96.0f);
        Due.is("many have arrived", arrived > 48, true);
    }
}
